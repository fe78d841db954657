theorem dX3_gather_0 : decode cX3_gather 0 = .ok (.iconst 0, 1) := by decide +kernel
theorem dX3_gather_1 : decode cX3_gather 1 = .ok (.istore 4, 2) := by decide +kernel
theorem dX3_gather_10 : decode cX3_gather 10 = .ok (.aload_n 0, 1) := by decide +kernel
theorem dX3_gather_11 : decode cX3_gather 11 = .ok (.getfield 9, 3) := by decide +kernel
theorem dX3_gather_14 : decode cX3_gather 14 = .ok (.iload 4, 2) := by decide +kernel
theorem dX3_gather_16 : decode cX3_gather 16 = .ok (.lconst 0, 1) := by decide +kernel
theorem dX3_gather_17 : decode cX3_gather 17 = .ok (.lastore, 1) := by decide +kernel
theorem dX3_gather_18 : decode cX3_gather 18 = .ok (.iinc 4 1, 3) := by decide +kernel
theorem dX3_gather_21 : decode cX3_gather 21 = .ok (.goto (-18), 3) := by decide +kernel
theorem dX3_gather_24 : decode cX3_gather 24 = .ok (.aload_n 0, 1) := by decide +kernel
theorem dX3_gather_25 : decode cX3_gather 25 = .ok (.iconst 0, 1) := by decide +kernel
theorem dX3_gather_26 : decode cX3_gather 26 = .ok (.putfield 15, 3) := by decide +kernel
theorem dX3_gather_29 : decode cX3_gather 29 = .ok (.aload_n 0, 1) := by decide +kernel
theorem dX3_gather_3 : decode cX3_gather 3 = .ok (.iload 4, 2) := by decide +kernel
theorem dX3_gather_30 : decode cX3_gather 30 = .ok (.iload_n 3, 1) := by decide +kernel
theorem dX3_gather_31 : decode cX3_gather 31 = .ok (.putfield 23, 3) := by decide +kernel
theorem dX3_gather_34 : decode cX3_gather 34 = .ok (.aload_n 0, 1) := by decide +kernel
theorem dX3_gather_35 : decode cX3_gather 35 = .ok (.aload_n 0, 1) := by decide +kernel
theorem dX3_gather_36 : decode cX3_gather 36 = .ok (.getfield 30, 3) := by decide +kernel
theorem dX3_gather_39 : decode cX3_gather 39 = .ok (.getfield 38, 3) := by decide +kernel
theorem dX3_gather_42 : decode cX3_gather 42 = .ok (.iload_n 1, 1) := by decide +kernel
theorem dX3_gather_43 : decode cX3_gather 43 = .ok (.iaload, 1) := by decide +kernel
theorem dX3_gather_44 : decode cX3_gather 44 = .ok (.sipush 2000, 3) := by decide +kernel
theorem dX3_gather_47 : decode cX3_gather 47 = .ok (.if_icmp .le 7, 3) := by decide +kernel
theorem dX3_gather_5 : decode cX3_gather 5 = .ok (.bipush 7, 2) := by decide +kernel
theorem dX3_gather_50 : decode cX3_gather 50 = .ok (.iconst 1, 1) := by decide +kernel
theorem dX3_gather_51 : decode cX3_gather 51 = .ok (.goto 4, 3) := by decide +kernel
theorem dX3_gather_54 : decode cX3_gather 54 = .ok (.iconst 0, 1) := by decide +kernel
theorem dX3_gather_55 : decode cX3_gather 55 = .ok (.putfield 19, 3) := by decide +kernel
theorem dX3_gather_58 : decode cX3_gather 58 = .ok (.aload_n 0, 1) := by decide +kernel
theorem dX3_gather_59 : decode cX3_gather 59 = .ok (.iload_n 1, 1) := by decide +kernel
theorem dX3_gather_60 : decode cX3_gather 60 = .ok (.iload_n 2, 1) := by decide +kernel
theorem dX3_gather_61 : decode cX3_gather 61 = .ok (.lconst 1, 1) := by decide +kernel
theorem dX3_gather_62 : decode cX3_gather 62 = .ok (.invokevirtual 44, 3) := by decide +kernel
theorem dX3_gather_65 : decode cX3_gather 65 = .ok (.return_, 1) := by decide +kernel
theorem dX3_gather_7 : decode cX3_gather 7 = .ok (.if_icmp .ge 17, 3) := by decide +kernel
set_option maxRecDepth 40000 in
theorem ggX3_gather_X3_fall_0 : GoodIn wsX3_gather [.code yX3_fall cX3_fall 8 none] := goodIn_r _ [11] rfl (by decide +kernel)
set_option maxRecDepth 40000 in
theorem ggX3_gather_X3_fall_1 : GoodIn wsX3_gather wsX3_fall_r1 := goodIn_r _ [6, 4, 12, 13, 14, 15, 16, 17, 3, 18, 19, 20, 21, 22, 23, 24, 25, 26, 27, 28, 29, 30, 31, 32] rfl (by decide +kernel)
set_option maxRecDepth 40000 in
theorem ggX3_gather_X3_fall_2 : GoodIn wsX3_gather wsX3_fall_r2 := goodIn_r _ [33, 34, 35, 10, 36, 2, 1, 37, 38, 39, 40, 41, 42, 43, 44, 45, 46, 47, 48, 49, 50, 51, 52, 53] rfl (by decide +kernel)
set_option maxRecDepth 40000 in
theorem ggX3_gather_X3_fall_3 : GoodIn wsX3_gather wsX3_fall_r3 := goodIn_r _ [54, 55, 56, 57, 58, 59, 60, 61, 7, 8, 9, 62, 63, 64, 65, 66, 67, 68, 69, 70, 71, 72, 73, 74] rfl (by decide +kernel)
set_option maxRecDepth 40000 in
theorem ggX3_gather_X3_fall_4 : GoodIn wsX3_gather wsX3_fall_r4 := goodIn_r _ [75, 76, 77, 78, 79, 80, 81, 82, 83, 84, 85, 86, 87, 88, 89, 90, 91, 92, 93, 94, 95, 96, 97, 98] rfl (by decide +kernel)
set_option maxRecDepth 40000 in
theorem ggX3_gather_X3_fall_5 : GoodIn wsX3_gather wsX3_fall_r5 := goodIn_r _ [99, 100, 101, 102, 103, 104, 105, 106, 107, 108, 109, 110, 111, 112, 113, 114, 115, 116, 117, 118, 119, 120, 121, 122] rfl (by decide +kernel)
set_option maxRecDepth 40000 in
theorem ggX3_gather_X3_fall_6 : GoodIn wsX3_gather wsX3_fall_r6 := goodIn_r _ [123, 124, 125, 126, 127, 128, 129, 130, 131, 132, 133, 134, 135, 136, 137, 138, 139, 140, 141, 142, 143, 144, 145, 146] rfl (by decide +kernel)
set_option maxRecDepth 40000 in
theorem ggX3_gather_X3_fall_7 : GoodIn wsX3_gather wsX3_fall_r7 := goodIn_r _ [147, 148, 149, 150, 151, 152, 153, 154] rfl (by decide +kernel)
set_option maxRecDepth 40000 in
theorem ggX3_gather_X3_fall_8 : GoodIn wsX3_gather wsX30 := goodIn_r _ [155, 156, 157, 158, 159, 160, 161] rfl (by decide +kernel)
set_option maxRecDepth 40000 in
theorem ggX3_gather_X3_fall_9 : GoodIn wsX3_gather wsX20 := goodIn_r _ [162, 163, 164, 165, 166, 167, 168, 169] rfl (by decide +kernel)
set_option maxRecDepth 40000 in
theorem ggX3_gather_X3_fall_10 : GoodIn wsX3_gather wsX80 := goodIn_r _ [170, 171, 172, 173, 174, 175, 176] rfl (by decide +kernel)
set_option maxRecDepth 40000 in
theorem ggX3_gather_X3_fall_11 : GoodIn wsX3_gather wsX110 := goodIn_r _ [177, 178, 179, 180, 181, 182] rfl (by decide +kernel)
set_option maxRecDepth 40000 in
theorem ggX3_gather_X3_fall : GoodIn wsX3_gather wsX3_fall := (goodIn_app ggX3_gather_X3_fall_0 (goodIn_app (goodIn_app (goodIn_app (goodIn_app (goodIn_app ggX3_gather_X3_fall_1 (goodIn_app ggX3_gather_X3_fall_2 (goodIn_app ggX3_gather_X3_fall_3 (goodIn_app ggX3_gather_X3_fall_4 (goodIn_app ggX3_gather_X3_fall_5 (goodIn_app ggX3_gather_X3_fall_6 ggX3_gather_X3_fall_7)))))) ggX3_gather_X3_fall_8) ggX3_gather_X3_fall_9) ggX3_gather_X3_fall_10) ggX3_gather_X3_fall_11))
set_option maxRecDepth 20000 in
theorem gX3_gather_X3_fall : GoodIn wsX3_gather (wsV RX3 44 RX3 yX3_fall wsX3_fall) := goodIn_app (goodIn_r _ [7, 8, 9, 10] rfl (by decide +kernel)) ggX3_gather_X3_fall
set_option maxRecDepth 20000 in
theorem in_X3_gather_X2 : ∀ w ∈ wsX20, w ∈ wsX3_gather := sub_r [162, 163, 164, 165, 166, 167, 168, 169] rfl
set_option maxRecDepth 20000 in
theorem in_X3_gather_X3 : ∀ w ∈ wsX30, w ∈ wsX3_gather := sub_r [155, 156, 157, 158, 159, 160, 161] rfl
set_option maxHeartbeats 4000000 in
set_option maxRecDepth 100000 in
theorem c_X3_gather (l : Launch) (D : va_G) (T : Nat → ClassId) (ad sa av : Nat → Nat) (ta : Nat) (sz : Nat) (h0 : Nat) (on : Nat) (dy : Int32) (mu : Int32) (pa : Int32) (fo : Nat → Int64) (wo : Nat) (la : Nat) (cl : Nat) (p0 : Nat) (p1 : Nat) (p4 : Nat) (n : Int32) (l9 : Nat → Int32) (n0 : Int32) (c1 : Nat) (c2 : Nat) (c3 : Nat) (c4 : Nat) (c5 : Nat) (c6 : Nat) (c7 : Nat) (f1 : Nat → Int32) (f2 : Nat → Int32) (f3 : Nat → Int32) (f4 : Nat → Int32) (f5 : Nat → Int32) (g0 : Nat → Int64) (g1 : Nat → Int64) (g4 : Nat → Int32) (f6 : Nat → Int32) (x1 : Int32) (x2 : Int32) (x3 : Int32) (hx : 0 ≤ x1.toInt ∧ x1.toInt < 24) (hd : 0 ≤ x2.toInt ∧ x2.toInt ≤ 6) (hpa : 0 ≤ x3.toInt ∧ x3.toInt ≤ 63) (hok : okC f1 f3 f4 f5) (hxn : x1.toInt < n0.toInt) (hmm : memW (VALW l9 f1 f2 f3 f4 f5) n0 n g0 g1 g4) (hlq : (1 ≤ (l9 4).toInt ∧ (l9 4).toInt ≤ 9) ∧ 1 ≤ (l9 6).toInt ∧ (l9 6).toInt ≤ 9) : Met l yX3_gather wsX3_gather ({ frames := 124, cells := 0, slots := 0, locals := 3963 }) (pWk [.ref h0, .int x1, .int x2, .int x3] D T [(h0, .inr (2, [.ref la, .ref cl, .ref wo, .ref on, .int dy, .int mu, .int pa])), (on, .inl (T 1, 7, .inr (.inl fo))), (wo, .inr (8, [.ref la, .ref cl, .ref p0, .ref p1, .ref p4, .int n])), (la, .inr (5, [.int (l9 0), .int (l9 1), .int (l9 2), .int (l9 3), .int (l9 4), .int (l9 5), .int (l9 6)])), (cl, .inr (1, [.int n0, .ref c1, .ref c2, .ref c3, .ref c4, .ref c5, .ref c6, .ref c7])), (c1, .inl (T 0, 24, .inl f1)), (c2, .inl (T 0, 24, .inl f2)), (c3, .inl (T 0, 24, .inl f3)), (c4, .inl (T 0, 24, .inl f4)), (c5, .inl (T 0, 24, .inl f5)), (p0, .inl (T 1, 676, .inr (.inl g0))), (p1, .inl (T 1, 676, .inr (.inl g1))), (p4, .inl (T 0, 672, .inl g4)), (c6, .inl (T 0, 24, .inl f6))] sz ad sa av ta) (va_Qv (fun (u : (Nat → Int64) × Int32 × Int32 × (Nat → Int64) × (Nat → Int64) × (Nat → Int32)) => dusP l9 f1 f2 f3 f4 f5 f6 (VALW l9 f1 f2 f3 f4 f5) x3 x1 x2 ((u.1, u.2.1, u.2.2.1) : duS) ∧ stW (VALW l9 f1 f2 f3 f4 f5) n0 n (fun _ => True) g0 g1 g4 u.2.2.2.1 u.2.2.2.2.1 u.2.2.2.2.2) (bW D (va_A [(h0, .inr (2, [.ref la, .ref cl, .ref wo, .ref on, .int dy, .int mu, .int pa])), (on, .inl (T 1, 7, .inr (.inl fo))), (wo, .inr (8, [.ref la, .ref cl, .ref p0, .ref p1, .ref p4, .int n])), (la, .inr (5, [.int (l9 0), .int (l9 1), .int (l9 2), .int (l9 3), .int (l9 4), .int (l9 5), .int (l9 6)])), (cl, .inr (1, [.int n0, .ref c1, .ref c2, .ref c3, .ref c4, .ref c5, .ref c6, .ref c7])), (c1, .inl (T 0, 24, .inl f1)), (c2, .inl (T 0, 24, .inl f2)), (c3, .inl (T 0, 24, .inl f3)), (c4, .inl (T 0, 24, .inl f4)), (c5, .inl (T 0, 24, .inl f5)), (p0, .inl (T 1, 676, .inr (.inl g0))), (p1, .inl (T 1, 676, .inr (.inl g1))), (p4, .inl (T 0, 672, .inl g4)), (c6, .inl (T 0, 24, .inl f6))] sz) (fun (u : (Nat → Int64) × Int32 × Int32 × (Nat → Int64) × (Nat → Int64) × (Nat → Int32)) => [(h0, .inr (2, [.ref la, .ref cl, .ref wo, .ref on, .int u.2.1, .int u.2.2.1, .int x3])), (on, .inl (T 1, 7, .inr (.inl u.1))), (wo, .inr (8, [.ref la, .ref cl, .ref p0, .ref p1, .ref p4, .int n])), (la, .inr (5, [.int (l9 0), .int (l9 1), .int (l9 2), .int (l9 3), .int (l9 4), .int (l9 5), .int (l9 6)])), (cl, .inr (1, [.int n0, .ref c1, .ref c2, .ref c3, .ref c4, .ref c5, .ref c6, .ref c7])), (c1, .inl (T 0, 24, .inl f1)), (c2, .inl (T 0, 24, .inl f2)), (c3, .inl (T 0, 24, .inl f3)), (c4, .inl (T 0, 24, .inl f4)), (c5, .inl (T 0, 24, .inl f5)), (p0, .inl (T 1, 676, .inr (.inl u.2.2.2.1))), (p1, .inl (T 1, 676, .inr (.inl u.2.2.2.2.1))), (p4, .inl (T 0, 672, .inl u.2.2.2.2.2)), (c6, .inl (T 0, 24, .inl f6))])) (va_A [(h0, .inr (2, [.ref la, .ref cl, .ref wo, .ref on, .int dy, .int mu, .int pa])), (on, .inl (T 1, 7, .inr (.inl fo))), (wo, .inr (8, [.ref la, .ref cl, .ref p0, .ref p1, .ref p4, .int n])), (la, .inr (5, [.int (l9 0), .int (l9 1), .int (l9 2), .int (l9 3), .int (l9 4), .int (l9 5), .int (l9 6)])), (cl, .inr (1, [.int n0, .ref c1, .ref c2, .ref c3, .ref c4, .ref c5, .ref c6, .ref c7])), (c1, .inl (T 0, 24, .inl f1)), (c2, .inl (T 0, 24, .inl f2)), (c3, .inl (T 0, 24, .inl f3)), (c4, .inl (T 0, 24, .inl f4)), (c5, .inl (T 0, 24, .inl f5)), (p0, .inl (T 1, 676, .inr (.inl g0))), (p1, .inl (T 1, 676, .inr (.inl g1))), (p4, .inl (T 0, 672, .inl g4)), (c6, .inl (T 0, 24, .inl f6))] sz)) 0 0 (va_A [(h0, .inr (2, [.ref la, .ref cl, .ref wo, .ref on, .int dy, .int mu, .int pa])), (on, .inl (T 1, 7, .inr (.inl fo))), (wo, .inr (8, [.ref la, .ref cl, .ref p0, .ref p1, .ref p4, .int n])), (la, .inr (5, [.int (l9 0), .int (l9 1), .int (l9 2), .int (l9 3), .int (l9 4), .int (l9 5), .int (l9 6)])), (cl, .inr (1, [.int n0, .ref c1, .ref c2, .ref c3, .ref c4, .ref c5, .ref c6, .ref c7])), (c1, .inl (T 0, 24, .inl f1)), (c2, .inl (T 0, 24, .inl f2)), (c3, .inl (T 0, 24, .inl f3)), (c4, .inl (T 0, 24, .inl f4)), (c5, .inl (T 0, 24, .inl f5)), (p0, .inl (T 1, 676, .inr (.inl g0))), (p1, .inl (T 1, 676, .inr (.inl g1))), (p4, .inl (T 0, 672, .inl g4)), (c6, .inl (T 0, 24, .inl f6))] sz) := by
  refine Met.ofW (cc := cX3_gather) (maxL := 5) (ret := none) (by decide +kernel) rfl ?_
  intro p e s m args below meth c s₁ B hml hv
  obtain ⟨rfl, hsz, hP, hE, hD0, hV⟩ := hv
  have hx := B.exec
  have hb := B.bytes
  have hr := B.returns
  have hts := atoms_spec (ws := wsX3_gather) B.pre
  have hown : s.vm.findClass RX3 = some m.cls := findClass_of_methodNamed B.named
  have hlocks := B.notSynchronized
  subst hsz
  have hD := hD0.self (sz := s.heap.size)
  generalize hAe : va_A [(h0, .inr (2, [.ref la, .ref cl, .ref wo, .ref on, .int dy, .int mu, .int pa])), (on, .inl (T 1, 7, .inr (.inl fo))), (wo, .inr (8, [.ref la, .ref cl, .ref p0, .ref p1, .ref p4, .int n])), (la, .inr (5, [.int (l9 0), .int (l9 1), .int (l9 2), .int (l9 3), .int (l9 4), .int (l9 5), .int (l9 6)])), (cl, .inr (1, [.int n0, .ref c1, .ref c2, .ref c3, .ref c4, .ref c5, .ref c6, .ref c7])), (c1, .inl (T 0, 24, .inl f1)), (c2, .inl (T 0, 24, .inl f2)), (c3, .inl (T 0, 24, .inl f3)), (c4, .inl (T 0, 24, .inl f4)), (c5, .inl (T 0, 24, .inl f5)), (p0, .inl (T 1, 676, .inr (.inl g0))), (p1, .inl (T 1, 676, .inr (.inl g1))), (p4, .inl (T 0, 672, .inl g4)), (c6, .inl (T 0, 24, .inl f6))] s.heap.size = A at hD hV ⊢
  have hA : ∀ q : Nat, s.heap.size ≤ q → A q := fun q h => by rw [← hAe]; exact Or.inr h
  have hS : va_S A s.heap s.heap [] := va_S.rf
  have hP : va_P D vwCl [(h0, .inr (2, [.ref la, .ref cl, .ref wo, .ref on, .int dy, .int mu, .int pa])), (on, .inl (T 1, 7, .inr (.inl fo))), (wo, .inr (8, [.ref la, .ref cl, .ref p0, .ref p1, .ref p4, .int n])), (la, .inr (5, [.int (l9 0), .int (l9 1), .int (l9 2), .int (l9 3), .int (l9 4), .int (l9 5), .int (l9 6)])), (cl, .inr (1, [.int n0, .ref c1, .ref c2, .ref c3, .ref c4, .ref c5, .ref c6, .ref c7])), (c1, .inl (T 0, 24, .inl f1)), (c2, .inl (T 0, 24, .inl f2)), (c3, .inl (T 0, 24, .inl f3)), (c4, .inl (T 0, 24, .inl f4)), (c5, .inl (T 0, 24, .inl f5)), (p0, .inl (T 1, 676, .inr (.inl g0))), (p1, .inl (T 1, 676, .inr (.inl g1))), (p4, .inl (T 0, 672, .inl g4)), (c6, .inl (T 0, 24, .inl f6))] s.heap := hP
  have hl := lv_entry ([.ref h0, .int x1, .int x2, .int x3]) (n := 5) (Nat.le_of_ble_eq_true rfl)
  rw [lg_entry_eq]
  generalize (lg_sl ([.ref h0, .int x1, .int x2, .int x3]) ++ List.replicate (5 - (lg_sl ([.ref h0, .int x1, .int x2, .int x3])).length) Slot.unset).toArray = ls at hl ⊢
  have hl : lv_has ls 5 [(0, .ref h0), (1, .int x1), (2, .int x2), (3, .int x3)] := hl
  clear hD0
  have hst : stW (VALW l9 f1 f2 f3 f4 f5) n0 n (fun _ => True) g0 g1 g4 g0 g1 g4 := stW_rf hmm
  refine lv_iconst (v := 0) hx hb dX3_gather_0 (by decide +kernel) ?_
  refine lv_istore (lv' := [(4, .int 0), (0, .ref h0), (1, .int x1), (2, .int x2), (3, .int x3)]) hx hb dX3_gather_1 hl (by decide +kernel) rfl (fun ls hl => ?_)
  refine lv_iload hx hb dX3_gather_3 (lv_at hl 0 rfl) ?_
  refine lv_bipush (v := 7) hx hb dX3_gather_5 (by decide +kernel) ?_
  refine lv_icmp_ge (tgt := 24) hx hb dX3_gather_7 (by decide +kernel) (fun c9 => absurd c9 (by decide +kernel)) (fun _ => ?_)
  refine lv_aload_n hx hb dX3_gather_10 rfl (lv_at hl 1 rfl) ?_
  refine va_get (D := D) (ci := 2) (v := .ref on) (C := RX3) (T := TX3) (N := 7) hx hb hts in_X3_gather_X3 hown hE.1 hP 0 rfl rfl 3 (by decide +kernel) (hts (.fieldLink RX3 9 "ClauseBook$Falling" "on" "[J") (List.mem_of_getElem? (i := 1) rfl)) (fun _ h9 => h9) rfl dX3_gather_11 ?_
  refine lv_iload hx hb dX3_gather_14 (lv_at hl 0 rfl) ?_
  refine lv_lconst (v := 0) hx hb dX3_gather_16 (by decide +kernel) ?_
  refine va_last hx hb hE.1 hP hD hS 1 1 rfl rfl (by unfold vp_in; decide) dX3_gather_17 (fun H locs hP hD hS => ?_)
  obtain ⟨hP, hD⟩ := wPD [(h0, .inr (2, [.ref la, .ref cl, .ref wo, .ref on, .int dy, .int mu, .int pa])), (on, .inl (T 1, 7, .inr (.inl (vp_updL fo 0 0)))), (wo, .inr (8, [.ref la, .ref cl, .ref p0, .ref p1, .ref p4, .int n])), (la, .inr (5, [.int (l9 0), .int (l9 1), .int (l9 2), .int (l9 3), .int (l9 4), .int (l9 5), .int (l9 6)])), (cl, .inr (1, [.int n0, .ref c1, .ref c2, .ref c3, .ref c4, .ref c5, .ref c6, .ref c7])), (c1, .inl (T 0, 24, .inl f1)), (c2, .inl (T 0, 24, .inl f2)), (c3, .inl (T 0, 24, .inl f3)), (c4, .inl (T 0, 24, .inl f4)), (c5, .inl (T 0, 24, .inl f5)), (p0, .inl (T 1, 676, .inr (.inl g0))), (p1, .inl (T 1, 676, .inr (.inl g1))), (p4, .inl (T 0, 672, .inl g4)), (c6, .inl (T 0, 24, .inl f6))] hP hD rfl
  refine lv_iinc (v := 1) (lv' := [(4, .int 1), (0, .ref h0), (1, .int x1), (2, .int x2), (3, .int x3)]) hx hb dX3_gather_18 hl (k := 0) rfl (by decide +kernel) (by decide +kernel) rfl (fun ls hl => ?_)
  refine lv_goto (tgt := 3) hx hb dX3_gather_21 (by decide +kernel) ?_
  refine lv_iload hx hb dX3_gather_3 (lv_at hl 0 rfl) ?_
  refine lv_bipush (v := 7) hx hb dX3_gather_5 (by decide +kernel) ?_
  refine lv_icmp_ge (tgt := 24) hx hb dX3_gather_7 (by decide +kernel) (fun c9 => absurd c9 (by decide +kernel)) (fun _ => ?_)
  refine lv_aload_n hx hb dX3_gather_10 rfl (lv_at hl 1 rfl) ?_
  refine va_get (D := D) (ci := 2) (v := .ref on) (C := RX3) (T := TX3) (N := 7) hx hb hts in_X3_gather_X3 hown hE.1 hP 0 rfl rfl 3 (by decide +kernel) (hts (.fieldLink RX3 9 "ClauseBook$Falling" "on" "[J") (List.mem_of_getElem? (i := 1) rfl)) (fun _ h9 => h9) rfl dX3_gather_11 ?_
  refine lv_iload hx hb dX3_gather_14 (lv_at hl 0 rfl) ?_
  refine lv_lconst (v := 0) hx hb dX3_gather_16 (by decide +kernel) ?_
  refine va_last hx hb hE.1 hP hD hS 1 1 rfl rfl (by unfold vp_in; decide) dX3_gather_17 (fun H locs hP hD hS => ?_)
  obtain ⟨hP, hD⟩ := wPD [(h0, .inr (2, [.ref la, .ref cl, .ref wo, .ref on, .int dy, .int mu, .int pa])), (on, .inl (T 1, 7, .inr (.inl (vp_updL (vp_updL fo 0 0) 1 0)))), (wo, .inr (8, [.ref la, .ref cl, .ref p0, .ref p1, .ref p4, .int n])), (la, .inr (5, [.int (l9 0), .int (l9 1), .int (l9 2), .int (l9 3), .int (l9 4), .int (l9 5), .int (l9 6)])), (cl, .inr (1, [.int n0, .ref c1, .ref c2, .ref c3, .ref c4, .ref c5, .ref c6, .ref c7])), (c1, .inl (T 0, 24, .inl f1)), (c2, .inl (T 0, 24, .inl f2)), (c3, .inl (T 0, 24, .inl f3)), (c4, .inl (T 0, 24, .inl f4)), (c5, .inl (T 0, 24, .inl f5)), (p0, .inl (T 1, 676, .inr (.inl g0))), (p1, .inl (T 1, 676, .inr (.inl g1))), (p4, .inl (T 0, 672, .inl g4)), (c6, .inl (T 0, 24, .inl f6))] hP hD rfl
  refine lv_iinc (v := 2) (lv' := [(4, .int 2), (0, .ref h0), (1, .int x1), (2, .int x2), (3, .int x3)]) hx hb dX3_gather_18 hl (k := 0) rfl (by decide +kernel) (by decide +kernel) rfl (fun ls hl => ?_)
  refine lv_goto (tgt := 3) hx hb dX3_gather_21 (by decide +kernel) ?_
  refine lv_iload hx hb dX3_gather_3 (lv_at hl 0 rfl) ?_
  refine lv_bipush (v := 7) hx hb dX3_gather_5 (by decide +kernel) ?_
  refine lv_icmp_ge (tgt := 24) hx hb dX3_gather_7 (by decide +kernel) (fun c9 => absurd c9 (by decide +kernel)) (fun _ => ?_)
  refine lv_aload_n hx hb dX3_gather_10 rfl (lv_at hl 1 rfl) ?_
  refine va_get (D := D) (ci := 2) (v := .ref on) (C := RX3) (T := TX3) (N := 7) hx hb hts in_X3_gather_X3 hown hE.1 hP 0 rfl rfl 3 (by decide +kernel) (hts (.fieldLink RX3 9 "ClauseBook$Falling" "on" "[J") (List.mem_of_getElem? (i := 1) rfl)) (fun _ h9 => h9) rfl dX3_gather_11 ?_
  refine lv_iload hx hb dX3_gather_14 (lv_at hl 0 rfl) ?_
  refine lv_lconst (v := 0) hx hb dX3_gather_16 (by decide +kernel) ?_
  refine va_last hx hb hE.1 hP hD hS 1 1 rfl rfl (by unfold vp_in; decide) dX3_gather_17 (fun H locs hP hD hS => ?_)
  obtain ⟨hP, hD⟩ := wPD [(h0, .inr (2, [.ref la, .ref cl, .ref wo, .ref on, .int dy, .int mu, .int pa])), (on, .inl (T 1, 7, .inr (.inl (vp_updL (vp_updL (vp_updL fo 0 0) 1 0) 2 0)))), (wo, .inr (8, [.ref la, .ref cl, .ref p0, .ref p1, .ref p4, .int n])), (la, .inr (5, [.int (l9 0), .int (l9 1), .int (l9 2), .int (l9 3), .int (l9 4), .int (l9 5), .int (l9 6)])), (cl, .inr (1, [.int n0, .ref c1, .ref c2, .ref c3, .ref c4, .ref c5, .ref c6, .ref c7])), (c1, .inl (T 0, 24, .inl f1)), (c2, .inl (T 0, 24, .inl f2)), (c3, .inl (T 0, 24, .inl f3)), (c4, .inl (T 0, 24, .inl f4)), (c5, .inl (T 0, 24, .inl f5)), (p0, .inl (T 1, 676, .inr (.inl g0))), (p1, .inl (T 1, 676, .inr (.inl g1))), (p4, .inl (T 0, 672, .inl g4)), (c6, .inl (T 0, 24, .inl f6))] hP hD rfl
  refine lv_iinc (v := 3) (lv' := [(4, .int 3), (0, .ref h0), (1, .int x1), (2, .int x2), (3, .int x3)]) hx hb dX3_gather_18 hl (k := 0) rfl (by decide +kernel) (by decide +kernel) rfl (fun ls hl => ?_)
  refine lv_goto (tgt := 3) hx hb dX3_gather_21 (by decide +kernel) ?_
  refine lv_iload hx hb dX3_gather_3 (lv_at hl 0 rfl) ?_
  refine lv_bipush (v := 7) hx hb dX3_gather_5 (by decide +kernel) ?_
  refine lv_icmp_ge (tgt := 24) hx hb dX3_gather_7 (by decide +kernel) (fun c9 => absurd c9 (by decide +kernel)) (fun _ => ?_)
  refine lv_aload_n hx hb dX3_gather_10 rfl (lv_at hl 1 rfl) ?_
  refine va_get (D := D) (ci := 2) (v := .ref on) (C := RX3) (T := TX3) (N := 7) hx hb hts in_X3_gather_X3 hown hE.1 hP 0 rfl rfl 3 (by decide +kernel) (hts (.fieldLink RX3 9 "ClauseBook$Falling" "on" "[J") (List.mem_of_getElem? (i := 1) rfl)) (fun _ h9 => h9) rfl dX3_gather_11 ?_
  refine lv_iload hx hb dX3_gather_14 (lv_at hl 0 rfl) ?_
  refine lv_lconst (v := 0) hx hb dX3_gather_16 (by decide +kernel) ?_
  refine va_last hx hb hE.1 hP hD hS 1 1 rfl rfl (by unfold vp_in; decide) dX3_gather_17 (fun H locs hP hD hS => ?_)
  obtain ⟨hP, hD⟩ := wPD [(h0, .inr (2, [.ref la, .ref cl, .ref wo, .ref on, .int dy, .int mu, .int pa])), (on, .inl (T 1, 7, .inr (.inl (vp_updL (vp_updL (vp_updL (vp_updL fo 0 0) 1 0) 2 0) 3 0)))), (wo, .inr (8, [.ref la, .ref cl, .ref p0, .ref p1, .ref p4, .int n])), (la, .inr (5, [.int (l9 0), .int (l9 1), .int (l9 2), .int (l9 3), .int (l9 4), .int (l9 5), .int (l9 6)])), (cl, .inr (1, [.int n0, .ref c1, .ref c2, .ref c3, .ref c4, .ref c5, .ref c6, .ref c7])), (c1, .inl (T 0, 24, .inl f1)), (c2, .inl (T 0, 24, .inl f2)), (c3, .inl (T 0, 24, .inl f3)), (c4, .inl (T 0, 24, .inl f4)), (c5, .inl (T 0, 24, .inl f5)), (p0, .inl (T 1, 676, .inr (.inl g0))), (p1, .inl (T 1, 676, .inr (.inl g1))), (p4, .inl (T 0, 672, .inl g4)), (c6, .inl (T 0, 24, .inl f6))] hP hD rfl
  refine lv_iinc (v := 4) (lv' := [(4, .int 4), (0, .ref h0), (1, .int x1), (2, .int x2), (3, .int x3)]) hx hb dX3_gather_18 hl (k := 0) rfl (by decide +kernel) (by decide +kernel) rfl (fun ls hl => ?_)
  refine lv_goto (tgt := 3) hx hb dX3_gather_21 (by decide +kernel) ?_
  refine lv_iload hx hb dX3_gather_3 (lv_at hl 0 rfl) ?_
  refine lv_bipush (v := 7) hx hb dX3_gather_5 (by decide +kernel) ?_
  refine lv_icmp_ge (tgt := 24) hx hb dX3_gather_7 (by decide +kernel) (fun c9 => absurd c9 (by decide +kernel)) (fun _ => ?_)
  refine lv_aload_n hx hb dX3_gather_10 rfl (lv_at hl 1 rfl) ?_
  refine va_get (D := D) (ci := 2) (v := .ref on) (C := RX3) (T := TX3) (N := 7) hx hb hts in_X3_gather_X3 hown hE.1 hP 0 rfl rfl 3 (by decide +kernel) (hts (.fieldLink RX3 9 "ClauseBook$Falling" "on" "[J") (List.mem_of_getElem? (i := 1) rfl)) (fun _ h9 => h9) rfl dX3_gather_11 ?_
  refine lv_iload hx hb dX3_gather_14 (lv_at hl 0 rfl) ?_
  refine lv_lconst (v := 0) hx hb dX3_gather_16 (by decide +kernel) ?_
  refine va_last hx hb hE.1 hP hD hS 1 1 rfl rfl (by unfold vp_in; decide) dX3_gather_17 (fun H locs hP hD hS => ?_)
  obtain ⟨hP, hD⟩ := wPD [(h0, .inr (2, [.ref la, .ref cl, .ref wo, .ref on, .int dy, .int mu, .int pa])), (on, .inl (T 1, 7, .inr (.inl (vp_updL (vp_updL (vp_updL (vp_updL (vp_updL fo 0 0) 1 0) 2 0) 3 0) 4 0)))), (wo, .inr (8, [.ref la, .ref cl, .ref p0, .ref p1, .ref p4, .int n])), (la, .inr (5, [.int (l9 0), .int (l9 1), .int (l9 2), .int (l9 3), .int (l9 4), .int (l9 5), .int (l9 6)])), (cl, .inr (1, [.int n0, .ref c1, .ref c2, .ref c3, .ref c4, .ref c5, .ref c6, .ref c7])), (c1, .inl (T 0, 24, .inl f1)), (c2, .inl (T 0, 24, .inl f2)), (c3, .inl (T 0, 24, .inl f3)), (c4, .inl (T 0, 24, .inl f4)), (c5, .inl (T 0, 24, .inl f5)), (p0, .inl (T 1, 676, .inr (.inl g0))), (p1, .inl (T 1, 676, .inr (.inl g1))), (p4, .inl (T 0, 672, .inl g4)), (c6, .inl (T 0, 24, .inl f6))] hP hD rfl
  refine lv_iinc (v := 5) (lv' := [(4, .int 5), (0, .ref h0), (1, .int x1), (2, .int x2), (3, .int x3)]) hx hb dX3_gather_18 hl (k := 0) rfl (by decide +kernel) (by decide +kernel) rfl (fun ls hl => ?_)
  refine lv_goto (tgt := 3) hx hb dX3_gather_21 (by decide +kernel) ?_
  refine lv_iload hx hb dX3_gather_3 (lv_at hl 0 rfl) ?_
  refine lv_bipush (v := 7) hx hb dX3_gather_5 (by decide +kernel) ?_
  refine lv_icmp_ge (tgt := 24) hx hb dX3_gather_7 (by decide +kernel) (fun c9 => absurd c9 (by decide +kernel)) (fun _ => ?_)
  refine lv_aload_n hx hb dX3_gather_10 rfl (lv_at hl 1 rfl) ?_
  refine va_get (D := D) (ci := 2) (v := .ref on) (C := RX3) (T := TX3) (N := 7) hx hb hts in_X3_gather_X3 hown hE.1 hP 0 rfl rfl 3 (by decide +kernel) (hts (.fieldLink RX3 9 "ClauseBook$Falling" "on" "[J") (List.mem_of_getElem? (i := 1) rfl)) (fun _ h9 => h9) rfl dX3_gather_11 ?_
  refine lv_iload hx hb dX3_gather_14 (lv_at hl 0 rfl) ?_
  refine lv_lconst (v := 0) hx hb dX3_gather_16 (by decide +kernel) ?_
  refine va_last hx hb hE.1 hP hD hS 1 1 rfl rfl (by unfold vp_in; decide) dX3_gather_17 (fun H locs hP hD hS => ?_)
  obtain ⟨hP, hD⟩ := wPD [(h0, .inr (2, [.ref la, .ref cl, .ref wo, .ref on, .int dy, .int mu, .int pa])), (on, .inl (T 1, 7, .inr (.inl (vp_updL (vp_updL (vp_updL (vp_updL (vp_updL (vp_updL fo 0 0) 1 0) 2 0) 3 0) 4 0) 5 0)))), (wo, .inr (8, [.ref la, .ref cl, .ref p0, .ref p1, .ref p4, .int n])), (la, .inr (5, [.int (l9 0), .int (l9 1), .int (l9 2), .int (l9 3), .int (l9 4), .int (l9 5), .int (l9 6)])), (cl, .inr (1, [.int n0, .ref c1, .ref c2, .ref c3, .ref c4, .ref c5, .ref c6, .ref c7])), (c1, .inl (T 0, 24, .inl f1)), (c2, .inl (T 0, 24, .inl f2)), (c3, .inl (T 0, 24, .inl f3)), (c4, .inl (T 0, 24, .inl f4)), (c5, .inl (T 0, 24, .inl f5)), (p0, .inl (T 1, 676, .inr (.inl g0))), (p1, .inl (T 1, 676, .inr (.inl g1))), (p4, .inl (T 0, 672, .inl g4)), (c6, .inl (T 0, 24, .inl f6))] hP hD rfl
  refine lv_iinc (v := 6) (lv' := [(4, .int 6), (0, .ref h0), (1, .int x1), (2, .int x2), (3, .int x3)]) hx hb dX3_gather_18 hl (k := 0) rfl (by decide +kernel) (by decide +kernel) rfl (fun ls hl => ?_)
  refine lv_goto (tgt := 3) hx hb dX3_gather_21 (by decide +kernel) ?_
  refine lv_iload hx hb dX3_gather_3 (lv_at hl 0 rfl) ?_
  refine lv_bipush (v := 7) hx hb dX3_gather_5 (by decide +kernel) ?_
  refine lv_icmp_ge (tgt := 24) hx hb dX3_gather_7 (by decide +kernel) (fun c9 => absurd c9 (by decide +kernel)) (fun _ => ?_)
  refine lv_aload_n hx hb dX3_gather_10 rfl (lv_at hl 1 rfl) ?_
  refine va_get (D := D) (ci := 2) (v := .ref on) (C := RX3) (T := TX3) (N := 7) hx hb hts in_X3_gather_X3 hown hE.1 hP 0 rfl rfl 3 (by decide +kernel) (hts (.fieldLink RX3 9 "ClauseBook$Falling" "on" "[J") (List.mem_of_getElem? (i := 1) rfl)) (fun _ h9 => h9) rfl dX3_gather_11 ?_
  refine lv_iload hx hb dX3_gather_14 (lv_at hl 0 rfl) ?_
  refine lv_lconst (v := 0) hx hb dX3_gather_16 (by decide +kernel) ?_
  refine va_last hx hb hE.1 hP hD hS 1 1 rfl rfl (by unfold vp_in; decide) dX3_gather_17 (fun H locs hP hD hS => ?_)
  obtain ⟨hP, hD⟩ := wPD [(h0, .inr (2, [.ref la, .ref cl, .ref wo, .ref on, .int dy, .int mu, .int pa])), (on, .inl (T 1, 7, .inr (.inl (vp_updL (vp_updL (vp_updL (vp_updL (vp_updL (vp_updL (vp_updL fo 0 0) 1 0) 2 0) 3 0) 4 0) 5 0) 6 0)))), (wo, .inr (8, [.ref la, .ref cl, .ref p0, .ref p1, .ref p4, .int n])), (la, .inr (5, [.int (l9 0), .int (l9 1), .int (l9 2), .int (l9 3), .int (l9 4), .int (l9 5), .int (l9 6)])), (cl, .inr (1, [.int n0, .ref c1, .ref c2, .ref c3, .ref c4, .ref c5, .ref c6, .ref c7])), (c1, .inl (T 0, 24, .inl f1)), (c2, .inl (T 0, 24, .inl f2)), (c3, .inl (T 0, 24, .inl f3)), (c4, .inl (T 0, 24, .inl f4)), (c5, .inl (T 0, 24, .inl f5)), (p0, .inl (T 1, 676, .inr (.inl g0))), (p1, .inl (T 1, 676, .inr (.inl g1))), (p4, .inl (T 0, 672, .inl g4)), (c6, .inl (T 0, 24, .inl f6))] hP hD rfl
  refine lv_iinc (v := 7) (lv' := [(4, .int 7), (0, .ref h0), (1, .int x1), (2, .int x2), (3, .int x3)]) hx hb dX3_gather_18 hl (k := 0) rfl (by decide +kernel) (by decide +kernel) rfl (fun ls hl => ?_)
  refine lv_goto (tgt := 3) hx hb dX3_gather_21 (by decide +kernel) ?_
  refine lv_iload hx hb dX3_gather_3 (lv_at hl 0 rfl) ?_
  refine lv_bipush (v := 7) hx hb dX3_gather_5 (by decide +kernel) ?_
  refine lv_icmp_ge (tgt := 24) hx hb dX3_gather_7 (by decide +kernel) (fun _ => ?_) (fun c9 => absurd c9 (by decide +kernel))
  refine lv_aload_n hx hb dX3_gather_24 rfl (lv_at hl 1 rfl) ?_
  refine lv_iconst (v := 0) hx hb dX3_gather_25 (by decide +kernel) ?_
  refine va_put (D := D) (ci := 2) (v := .int 0) (ty := .int) (C := RX3) (T := TX3) (N := 7) hx hb hts in_X3_gather_X3 tyX3 tyX3_ok nmX3 hown hE.1 hP hD hS 0 rfl rfl 4 (by decide +kernel) (hts (.fieldLink RX3 15 "ClauseBook$Falling" "days" "I") (List.mem_of_getElem? (i := 2) rfl)) (fun _ h9 => h9) rfl (by decide +kernel) rfl rfl (Nat.le_of_ble_eq_true rfl) dX3_gather_26 (fun H locs hP hD hS => ?_)
  obtain ⟨hP, hD⟩ := wPD [(h0, .inr (2, [.ref la, .ref cl, .ref wo, .ref on, .int 0, .int mu, .int pa])), (on, .inl (T 1, 7, .inr (.inl (vp_updL (vp_updL (vp_updL (vp_updL (vp_updL (vp_updL (vp_updL fo 0 0) 1 0) 2 0) 3 0) 4 0) 5 0) 6 0)))), (wo, .inr (8, [.ref la, .ref cl, .ref p0, .ref p1, .ref p4, .int n])), (la, .inr (5, [.int (l9 0), .int (l9 1), .int (l9 2), .int (l9 3), .int (l9 4), .int (l9 5), .int (l9 6)])), (cl, .inr (1, [.int n0, .ref c1, .ref c2, .ref c3, .ref c4, .ref c5, .ref c6, .ref c7])), (c1, .inl (T 0, 24, .inl f1)), (c2, .inl (T 0, 24, .inl f2)), (c3, .inl (T 0, 24, .inl f3)), (c4, .inl (T 0, 24, .inl f4)), (c5, .inl (T 0, 24, .inl f5)), (p0, .inl (T 1, 676, .inr (.inl g0))), (p1, .inl (T 1, 676, .inr (.inl g1))), (p4, .inl (T 0, 672, .inl g4)), (c6, .inl (T 0, 24, .inl f6))] hP hD rfl
  refine lv_aload_n hx hb dX3_gather_29 rfl (lv_at hl 1 rfl) ?_
  refine lv_iload_n hx hb dX3_gather_30 rfl (lv_at hl 4 rfl) ?_
  refine va_put (D := D) (ci := 2) (v := .int x3) (ty := .int) (C := RX3) (T := TX3) (N := 7) hx hb hts in_X3_gather_X3 tyX3 tyX3_ok nmX3 hown hE.1 hP hD hS 0 rfl rfl 6 (by decide +kernel) (hts (.fieldLink RX3 23 "ClauseBook$Falling" "path" "I") (List.mem_of_getElem? (i := 3) rfl)) (fun _ h9 => h9) rfl (by decide +kernel) rfl rfl (Nat.le_of_ble_eq_true rfl) dX3_gather_31 (fun H locs hP hD hS => ?_)
  obtain ⟨hP, hD⟩ := wPD [(h0, .inr (2, [.ref la, .ref cl, .ref wo, .ref on, .int 0, .int mu, .int x3])), (on, .inl (T 1, 7, .inr (.inl (vp_updL (vp_updL (vp_updL (vp_updL (vp_updL (vp_updL (vp_updL fo 0 0) 1 0) 2 0) 3 0) 4 0) 5 0) 6 0)))), (wo, .inr (8, [.ref la, .ref cl, .ref p0, .ref p1, .ref p4, .int n])), (la, .inr (5, [.int (l9 0), .int (l9 1), .int (l9 2), .int (l9 3), .int (l9 4), .int (l9 5), .int (l9 6)])), (cl, .inr (1, [.int n0, .ref c1, .ref c2, .ref c3, .ref c4, .ref c5, .ref c6, .ref c7])), (c1, .inl (T 0, 24, .inl f1)), (c2, .inl (T 0, 24, .inl f2)), (c3, .inl (T 0, 24, .inl f3)), (c4, .inl (T 0, 24, .inl f4)), (c5, .inl (T 0, 24, .inl f5)), (p0, .inl (T 1, 676, .inr (.inl g0))), (p1, .inl (T 1, 676, .inr (.inl g1))), (p4, .inl (T 0, 672, .inl g4)), (c6, .inl (T 0, 24, .inl f6))] hP hD rfl
  refine lv_aload_n hx hb dX3_gather_34 rfl (lv_at hl 1 rfl) ?_
  refine lv_aload_n hx hb dX3_gather_35 rfl (lv_at hl 1 rfl) ?_
  refine va_get (D := D) (ci := 2) (v := .ref cl) (C := RX3) (T := TX3) (N := 7) hx hb hts in_X3_gather_X3 hown hE.1 hP 0 rfl rfl 1 (by decide +kernel) (hts (.fieldLink RX3 30 "ClauseBook$Falling" "clauses" "LClauseBook$Clauses;") (List.mem_of_getElem? (i := 4) rfl)) (fun _ h9 => h9) rfl dX3_gather_36 ?_
  refine va_get (D := D) (ci := 1) (v := .ref c6) (C := RX2) (T := TX2) (N := 8) hx hb hts in_X3_gather_X2 hown hE.1 hP 4 rfl rfl 6 (by decide +kernel) (hts (.fieldLink RX3 38 "ClauseBook$Clauses" "made" "[I") (List.mem_of_getElem? (i := 5) rfl)) (fun _ h9 => h9) rfl dX3_gather_39 ?_
  refine lv_iload_n hx hb dX3_gather_42 rfl (lv_at hl 2 rfl) ?_
  refine va_iald hx hb hE.1 hP 13 0 rfl rfl (by rw [vp_in_iff]; first | omega | (subst_vars; omega)) dX3_gather_43 ?_
  refine lv_topi (fun z_1 ez_1 => ?_)
  refine lv_sipush (v := 2000) hx hb dX3_gather_44 (by decide +kernel) ?_
  refine lv_icmp_le (tgt := 54) hx hb dX3_gather_47 (by decide +kernel) (fun c_2 => ?_) (fun c_2 => ?_)
  · rw [fa_le] at c_2
    try rw [ti_2000] at c_2
    refine lv_iconst (v := 0) hx hb dX3_gather_54 (by decide +kernel) ?_
    refine va_put (D := D) (ci := 2) (v := .int 0) (ty := .boolean) (C := RX3) (T := TX3) (N := 7) hx hb hts in_X3_gather_X3 tyX3 tyX3_ok nmX3 hown hE.1 hP hD hS 0 rfl rfl 5 (by decide +kernel) (hts (.fieldLink RX3 19 "ClauseBook$Falling" "much" "Z") (List.mem_of_getElem? (i := 6) rfl)) (fun _ h9 => h9) rfl (by decide +kernel) rfl rfl (Nat.le_of_ble_eq_true rfl) dX3_gather_55 (fun H locs hP hD hS => ?_)
    obtain ⟨hP, hD⟩ := wPD [(h0, .inr (2, [.ref la, .ref cl, .ref wo, .ref on, .int 0, .int 0, .int x3])), (on, .inl (T 1, 7, .inr (.inl (vp_updL (vp_updL (vp_updL (vp_updL (vp_updL (vp_updL (vp_updL fo 0 0) 1 0) 2 0) 3 0) 4 0) 5 0) 6 0)))), (wo, .inr (8, [.ref la, .ref cl, .ref p0, .ref p1, .ref p4, .int n])), (la, .inr (5, [.int (l9 0), .int (l9 1), .int (l9 2), .int (l9 3), .int (l9 4), .int (l9 5), .int (l9 6)])), (cl, .inr (1, [.int n0, .ref c1, .ref c2, .ref c3, .ref c4, .ref c5, .ref c6, .ref c7])), (c1, .inl (T 0, 24, .inl f1)), (c2, .inl (T 0, 24, .inl f2)), (c3, .inl (T 0, 24, .inl f3)), (c4, .inl (T 0, 24, .inl f4)), (c5, .inl (T 0, 24, .inl f5)), (p0, .inl (T 1, 676, .inr (.inl g0))), (p1, .inl (T 1, 676, .inr (.inl g1))), (p4, .inl (T 0, 672, .inl g4)), (c6, .inl (T 0, 24, .inl f6))] hP hD rfl
    refine lv_aload_n hx hb dX3_gather_58 rfl (lv_at hl 1 rfl) ?_
    refine lv_iload_n hx hb dX3_gather_59 rfl (lv_at hl 2 rfl) ?_
    refine lv_iload_n hx hb dX3_gather_60 rfl (lv_at hl 3 rfl) ?_
    refine lv_lconst (v := 1) hx hb dX3_gather_61 (by decide +kernel) ?_
    have hFc := va_free (wc := [(h0, .inr (2, [.ref la, .ref cl, .ref wo, .ref on, .int 0, .int 0, .int x3])), (on, .inl (T 1, 7, .inr (.inl (vp_updL (vp_updL (vp_updL (vp_updL (vp_updL (vp_updL (vp_updL fo 0 0) 1 0) 2 0) 3 0) 4 0) 5 0) 6 0)))), (wo, .inr (8, [.ref la, .ref cl, .ref p0, .ref p1, .ref p4, .int n])), (la, .inr (5, [.int (l9 0), .int (l9 1), .int (l9 2), .int (l9 3), .int (l9 4), .int (l9 5), .int (l9 6)])), (cl, .inr (1, [.int n0, .ref c1, .ref c2, .ref c3, .ref c4, .ref c5, .ref c6, .ref c7])), (c1, .inl (T 0, 24, .inl f1)), (c2, .inl (T 0, 24, .inl f2)), (c3, .inl (T 0, 24, .inl f3)), (c4, .inl (T 0, 24, .inl f4)), (c5, .inl (T 0, 24, .inl f5)), (p0, .inl (T 1, 676, .inr (.inl g0))), (p1, .inl (T 1, 676, .inr (.inl g1))), (p4, .inl (T 0, 672, .inl g4))]) hD hS hA [0, 1, 2, 3, 4, 5, 6, 7, 8, 9, 10, 11, 12] rfl
    refine va_callv (va_runV (As := [.int x1, .int x2, .long 1]) (rest := []) ⟨hx, hb, hml, hown, hts⟩ (cF_all l D T ad sa av ta 24 _ h0 on 0 0 x3 (vp_updL (vp_updL (vp_updL (vp_updL (vp_updL (vp_updL (vp_updL fo 0 0) 1 0) 2 0) 3 0) 4 0) 5 0) 6 0) wo la cl p0 p1 p4 n l9 n0 c1 c2 c3 c4 c5 c6 c7 f1 f2 f3 f4 f5 g0 g1 g4 x1 x2 1 (by omega) (by omega) (by omega) hok (by omega) hmm hlq (by omega)) (cwV 3 hts gX3_gather_X3_fall rfl rfl rfl hv_X3_fall ⟨Nat.le_of_ble_eq_true rfl, Nat.le_of_ble_eq_true rfl⟩) (pWk_V (q := (RX3, TX3, 7)) (ci := 2) (q0 := 0) hP hE hD hV hS hFc rfl rfl [0, 1, 2, 3, 4, 5, 6, 7, 8, 9, 10, 11, 12] (by decide +kernel) rfl rfl) rfl rfl hl.1 rfl (lv_room (Nat.le_of_ble_eq_true rfl)) dX3_gather_62 ⟨Nat.le_of_ble_eq_true rfl, Nat.le_of_ble_eq_true rfl⟩) hS (fun q _ h => hFc q h) hFc (fun u_4 t H1 locs ht hvm hr_3 hB hz1 hk1 hS => ?_)
    obtain ⟨f_5, n_6, n_7, f_8, f_9, f_10⟩ := u_4
    have hsfhr_3 : stW (VALW l9 f1 f2 f3 f4 f5) n0 n (fun _ => True) g0 g1 g4 f_8 f_9 f_10 := hr_3.2
    have hst : stW (VALW l9 f1 f2 f3 f4 f5) n0 n (fun _ => True) g0 g1 g4 f_8 f_9 f_10 := hst.tr hsfhr_3 (fun _ _ => trivial)
    have hmm : memW (VALW l9 f1 f2 f3 f4 f5) n0 n f_8 f_9 f_10 := hst.1
    have hflhr_3 : falP l9 f1 f2 f3 f4 f5 (VALW l9 f1 f2 f3 f4 f5) x3 24 x1 x2 (1 : Int64) (((vp_updL (vp_updL (vp_updL (vp_updL (vp_updL (vp_updL (vp_updL fo 0 0) 1 0) 2 0) 3 0) 4 0) 5 0) 6 0), 0, 0) : duS) ((f_5, n_6, n_7) : duS) := hr_3.1
    obtain ⟨hP1, hD1⟩ := hB
    rw [ht] at hP1
    obtain ⟨hP, hD⟩ := va_repl [(h0, .inr (2, [.ref la, .ref cl, .ref wo, .ref on, .int n_6, .int n_7, .int x3])), (on, .inl (T 1, 7, .inr (.inl f_5))), (wo, .inr (8, [.ref la, .ref cl, .ref p0, .ref p1, .ref p4, .int n])), (la, .inr (5, [.int (l9 0), .int (l9 1), .int (l9 2), .int (l9 3), .int (l9 4), .int (l9 5), .int (l9 6)])), (cl, .inr (1, [.int n0, .ref c1, .ref c2, .ref c3, .ref c4, .ref c5, .ref c6, .ref c7])), (c1, .inl (T 0, 24, .inl f1)), (c2, .inl (T 0, 24, .inl f2)), (c3, .inl (T 0, 24, .inl f3)), (c4, .inl (T 0, 24, .inl f4)), (c5, .inl (T 0, 24, .inl f5)), (p0, .inl (T 1, 676, .inr (.inl f_8))), (p1, .inl (T 1, 676, .inr (.inl f_9))), (p4, .inl (T 0, 672, .inl f_10)), (c6, .inl (T 0, 24, .inl f6))] hP hD [0, 1, 2, 3, 4, 5, 6, 7, 8, 9, 10, 11, 12] [0, 1, 2, 3, 4, 5, 6, 7, 8, 9, 10, 11, 12] rfl (by decide +kernel) rfl rfl rfl hk1 hP1
    clear hP1 hD1 hFc
    generalize H1 = H at hP hS ⊢
    exact W.vret hx hb hr (fun t ht hW => ⟨⟨(f_5, n_6, n_7, f_8, f_9, f_10), rfl, ⟨dus_of (all7 (by first | rfl | simp [vp_updL]) (by first | rfl | simp [vp_updL]) (by first | rfl | simp [vp_updL]) (by first | rfl | simp [vp_updL]) (by first | rfl | simp [vp_updL]) (by first | rfl | simp [vp_updL]) (by first | rfl | simp [vp_updL])) rfl ⟨(fun h9 => by rw [← ez_1]; first | omega | exact absurd h9 (by decide +kernel)), (fun h9 => by rw [← ez_1] at h9; first | decide | omega)⟩ hflhr_3, hst⟩, by rw [ht]; exact hP.sub [0, 1, 2, 3, 4, 5, 6, 7, 8, 9, 10, 11, 12, 13] rfl, hD.sub [0, 1, 2, 3, 4, 5, 6, 7, 8, 9, 10, 11, 12, 13] (by decide +kernel) rfl⟩, hS.F ht⟩) hS.2.2 dX3_gather_65
  · rw [fa_le] at c_2
    try rw [ti_2000] at c_2
    refine lv_iconst (v := 1) hx hb dX3_gather_50 (by decide +kernel) ?_
    refine lv_goto (tgt := 55) hx hb dX3_gather_51 (by decide +kernel) ?_
    refine va_put (D := D) (ci := 2) (v := .int 1) (ty := .boolean) (C := RX3) (T := TX3) (N := 7) hx hb hts in_X3_gather_X3 tyX3 tyX3_ok nmX3 hown hE.1 hP hD hS 0 rfl rfl 5 (by decide +kernel) (hts (.fieldLink RX3 19 "ClauseBook$Falling" "much" "Z") (List.mem_of_getElem? (i := 6) rfl)) (fun _ h9 => h9) rfl (by decide +kernel) rfl rfl (Nat.le_of_ble_eq_true rfl) dX3_gather_55 (fun H locs hP hD hS => ?_)
    obtain ⟨hP, hD⟩ := wPD [(h0, .inr (2, [.ref la, .ref cl, .ref wo, .ref on, .int 0, .int 1, .int x3])), (on, .inl (T 1, 7, .inr (.inl (vp_updL (vp_updL (vp_updL (vp_updL (vp_updL (vp_updL (vp_updL fo 0 0) 1 0) 2 0) 3 0) 4 0) 5 0) 6 0)))), (wo, .inr (8, [.ref la, .ref cl, .ref p0, .ref p1, .ref p4, .int n])), (la, .inr (5, [.int (l9 0), .int (l9 1), .int (l9 2), .int (l9 3), .int (l9 4), .int (l9 5), .int (l9 6)])), (cl, .inr (1, [.int n0, .ref c1, .ref c2, .ref c3, .ref c4, .ref c5, .ref c6, .ref c7])), (c1, .inl (T 0, 24, .inl f1)), (c2, .inl (T 0, 24, .inl f2)), (c3, .inl (T 0, 24, .inl f3)), (c4, .inl (T 0, 24, .inl f4)), (c5, .inl (T 0, 24, .inl f5)), (p0, .inl (T 1, 676, .inr (.inl g0))), (p1, .inl (T 1, 676, .inr (.inl g1))), (p4, .inl (T 0, 672, .inl g4)), (c6, .inl (T 0, 24, .inl f6))] hP hD rfl
    refine lv_aload_n hx hb dX3_gather_58 rfl (lv_at hl 1 rfl) ?_
    refine lv_iload_n hx hb dX3_gather_59 rfl (lv_at hl 2 rfl) ?_
    refine lv_iload_n hx hb dX3_gather_60 rfl (lv_at hl 3 rfl) ?_
    refine lv_lconst (v := 1) hx hb dX3_gather_61 (by decide +kernel) ?_
    have hFc := va_free (wc := [(h0, .inr (2, [.ref la, .ref cl, .ref wo, .ref on, .int 0, .int 1, .int x3])), (on, .inl (T 1, 7, .inr (.inl (vp_updL (vp_updL (vp_updL (vp_updL (vp_updL (vp_updL (vp_updL fo 0 0) 1 0) 2 0) 3 0) 4 0) 5 0) 6 0)))), (wo, .inr (8, [.ref la, .ref cl, .ref p0, .ref p1, .ref p4, .int n])), (la, .inr (5, [.int (l9 0), .int (l9 1), .int (l9 2), .int (l9 3), .int (l9 4), .int (l9 5), .int (l9 6)])), (cl, .inr (1, [.int n0, .ref c1, .ref c2, .ref c3, .ref c4, .ref c5, .ref c6, .ref c7])), (c1, .inl (T 0, 24, .inl f1)), (c2, .inl (T 0, 24, .inl f2)), (c3, .inl (T 0, 24, .inl f3)), (c4, .inl (T 0, 24, .inl f4)), (c5, .inl (T 0, 24, .inl f5)), (p0, .inl (T 1, 676, .inr (.inl g0))), (p1, .inl (T 1, 676, .inr (.inl g1))), (p4, .inl (T 0, 672, .inl g4))]) hD hS hA [0, 1, 2, 3, 4, 5, 6, 7, 8, 9, 10, 11, 12] rfl
    refine va_callv (va_runV (As := [.int x1, .int x2, .long 1]) (rest := []) ⟨hx, hb, hml, hown, hts⟩ (cF_all l D T ad sa av ta 24 _ h0 on 0 1 x3 (vp_updL (vp_updL (vp_updL (vp_updL (vp_updL (vp_updL (vp_updL fo 0 0) 1 0) 2 0) 3 0) 4 0) 5 0) 6 0) wo la cl p0 p1 p4 n l9 n0 c1 c2 c3 c4 c5 c6 c7 f1 f2 f3 f4 f5 g0 g1 g4 x1 x2 1 (by omega) (by omega) (by omega) hok (by omega) hmm hlq (by omega)) (cwV 3 hts gX3_gather_X3_fall rfl rfl rfl hv_X3_fall ⟨Nat.le_of_ble_eq_true rfl, Nat.le_of_ble_eq_true rfl⟩) (pWk_V (q := (RX3, TX3, 7)) (ci := 2) (q0 := 0) hP hE hD hV hS hFc rfl rfl [0, 1, 2, 3, 4, 5, 6, 7, 8, 9, 10, 11, 12] (by decide +kernel) rfl rfl) rfl rfl hl.1 rfl (lv_room (Nat.le_of_ble_eq_true rfl)) dX3_gather_62 ⟨Nat.le_of_ble_eq_true rfl, Nat.le_of_ble_eq_true rfl⟩) hS (fun q _ h => hFc q h) hFc (fun u_12 t H1 locs ht hvm hr_11 hB hz1 hk1 hS => ?_)
    obtain ⟨f_13, n_14, n_15, f_16, f_17, f_18⟩ := u_12
    have hsfhr_11 : stW (VALW l9 f1 f2 f3 f4 f5) n0 n (fun _ => True) g0 g1 g4 f_16 f_17 f_18 := hr_11.2
    have hst : stW (VALW l9 f1 f2 f3 f4 f5) n0 n (fun _ => True) g0 g1 g4 f_16 f_17 f_18 := hst.tr hsfhr_11 (fun _ _ => trivial)
    have hmm : memW (VALW l9 f1 f2 f3 f4 f5) n0 n f_16 f_17 f_18 := hst.1
    have hflhr_11 : falP l9 f1 f2 f3 f4 f5 (VALW l9 f1 f2 f3 f4 f5) x3 24 x1 x2 (1 : Int64) (((vp_updL (vp_updL (vp_updL (vp_updL (vp_updL (vp_updL (vp_updL fo 0 0) 1 0) 2 0) 3 0) 4 0) 5 0) 6 0), 0, 1) : duS) ((f_13, n_14, n_15) : duS) := hr_11.1
    obtain ⟨hP1, hD1⟩ := hB
    rw [ht] at hP1
    obtain ⟨hP, hD⟩ := va_repl [(h0, .inr (2, [.ref la, .ref cl, .ref wo, .ref on, .int n_14, .int n_15, .int x3])), (on, .inl (T 1, 7, .inr (.inl f_13))), (wo, .inr (8, [.ref la, .ref cl, .ref p0, .ref p1, .ref p4, .int n])), (la, .inr (5, [.int (l9 0), .int (l9 1), .int (l9 2), .int (l9 3), .int (l9 4), .int (l9 5), .int (l9 6)])), (cl, .inr (1, [.int n0, .ref c1, .ref c2, .ref c3, .ref c4, .ref c5, .ref c6, .ref c7])), (c1, .inl (T 0, 24, .inl f1)), (c2, .inl (T 0, 24, .inl f2)), (c3, .inl (T 0, 24, .inl f3)), (c4, .inl (T 0, 24, .inl f4)), (c5, .inl (T 0, 24, .inl f5)), (p0, .inl (T 1, 676, .inr (.inl f_16))), (p1, .inl (T 1, 676, .inr (.inl f_17))), (p4, .inl (T 0, 672, .inl f_18)), (c6, .inl (T 0, 24, .inl f6))] hP hD [0, 1, 2, 3, 4, 5, 6, 7, 8, 9, 10, 11, 12] [0, 1, 2, 3, 4, 5, 6, 7, 8, 9, 10, 11, 12] rfl (by decide +kernel) rfl rfl rfl hk1 hP1
    clear hP1 hD1 hFc
    generalize H1 = H at hP hS ⊢
    exact W.vret hx hb hr (fun t ht hW => ⟨⟨(f_13, n_14, n_15, f_16, f_17, f_18), rfl, ⟨dus_of (all7 (by first | rfl | simp [vp_updL]) (by first | rfl | simp [vp_updL]) (by first | rfl | simp [vp_updL]) (by first | rfl | simp [vp_updL]) (by first | rfl | simp [vp_updL]) (by first | rfl | simp [vp_updL]) (by first | rfl | simp [vp_updL])) rfl ⟨(fun h9 => by rw [← ez_1]; first | omega | exact absurd h9 (by decide +kernel)), (fun h9 => by rw [← ez_1] at h9; first | decide | omega)⟩ hflhr_11, hst⟩, by rw [ht]; exact hP.sub [0, 1, 2, 3, 4, 5, 6, 7, 8, 9, 10, 11, 12, 13] rfl, hD.sub [0, 1, 2, 3, 4, 5, 6, 7, 8, 9, 10, 11, 12, 13] (by decide +kernel) rfl⟩, hS.F ht⟩) hS.2.2 dX3_gather_65
theorem dX12_due_0 : decode cX12_due 0 = .ok (.aload_n 0, 1) := by decide +kernel
theorem dX12_due_1 : decode cX12_due 1 = .ok (.iload_n 1, 1) := by decide +kernel
theorem dX12_due_10 : decode cX12_due 10 = .ok (.iload 4, 2) := by decide +kernel
theorem dX12_due_12 : decode cX12_due 12 = .ok (.invokestatic 120, 3) := by decide +kernel
theorem dX12_due_15 : decode cX12_due 15 = .ok (.ifCond .ne 7, 3) := by decide +kernel
theorem dX12_due_18 : decode cX12_due 18 = .ok (.ldc2_w 183, 3) := by decide +kernel
theorem dX12_due_2 : decode cX12_due 2 = .ok (.iload_n 2, 1) := by decide +kernel
theorem dX12_due_21 : decode cX12_due 21 = .ok (.lreturn, 1) := by decide +kernel
theorem dX12_due_22 : decode cX12_due 22 = .ok (.aload_n 0, 1) := by decide +kernel
theorem dX12_due_23 : decode cX12_due 23 = .ok (.getfield 52, 3) := by decide +kernel
theorem dX12_due_26 : decode cX12_due 26 = .ok (.iload_n 1, 1) := by decide +kernel
theorem dX12_due_27 : decode cX12_due 27 = .ok (.iload_n 2, 1) := by decide +kernel
theorem dX12_due_28 : decode cX12_due 28 = .ok (.iload_n 3, 1) := by decide +kernel
theorem dX12_due_29 : decode cX12_due 29 = .ok (.invokevirtual 253, 3) := by decide +kernel
theorem dX12_due_3 : decode cX12_due 3 = .ok (.iload_n 3, 1) := by decide +kernel
theorem dX12_due_32 : decode cX12_due 32 = .ok (.aload_n 0, 1) := by decide +kernel
theorem dX12_due_33 : decode cX12_due 33 = .ok (.getfield 52, 3) := by decide +kernel
theorem dX12_due_36 : decode cX12_due 36 = .ok (.getfield 256, 3) := by decide +kernel
theorem dX12_due_39 : decode cX12_due 39 = .ok (.ifCond .eq 9, 3) := by decide +kernel
theorem dX12_due_4 : decode cX12_due 4 = .ok (.invokevirtual 250, 3) := by decide +kernel
theorem dX12_due_42 : decode cX12_due 42 = .ok (.ldc2_w 200, 3) := by decide +kernel
theorem dX12_due_45 : decode cX12_due 45 = .ok (.goto 13, 3) := by decide +kernel
theorem dX12_due_48 : decode cX12_due 48 = .ok (.aload_n 0, 1) := by decide +kernel
theorem dX12_due_49 : decode cX12_due 49 = .ok (.getfield 52, 3) := by decide +kernel
theorem dX12_due_52 : decode cX12_due 52 = .ok (.getfield 259, 3) := by decide +kernel
theorem dX12_due_55 : decode cX12_due 55 = .ok (.iload 4, 2) := by decide +kernel
theorem dX12_due_57 : decode cX12_due 57 = .ok (.laload, 1) := by decide +kernel
theorem dX12_due_58 : decode cX12_due 58 = .ok (.lreturn, 1) := by decide +kernel
theorem dX12_due_7 : decode cX12_due 7 = .ok (.ifCond .eq 11, 3) := by decide +kernel
set_option maxRecDepth 20000 in
theorem ggX12_due_X12_isDay : GoodIn wsX12_due wsX12_isDay := goodIn_r _ [22, 23, 18, 9, 19] rfl (by decide +kernel)
set_option maxRecDepth 20000 in
theorem ggX12_due_X12_isHad : GoodIn wsX12_due wsX12_isHad := goodIn_r _ [10, 11, 12, 13, 14, 15, 16, 17, 18, 9, 19, 20, 21, 22, 23, 24, 25, 26, 184, 185, 186, 187, 188, 189, 190, 191, 192, 193, 194, 202, 203, 204, 205, 206, 207, 208, 209] rfl (by decide +kernel)
set_option maxRecDepth 40000 in
theorem ggX12_due_X3_gather_0 : GoodIn wsX12_due [.code yX3_gather cX3_gather 5 none] := goodIn_r _ [31] rfl (by decide +kernel)
set_option maxRecDepth 40000 in
theorem ggX12_due_X3_gather_1 : GoodIn wsX12_due wsX3_gather_r1 := goodIn_r _ [32, 33, 34, 35, 36, 37, 38, 39, 40, 30, 41, 42, 43, 44, 45, 46, 47, 48, 49, 50, 51, 52, 15, 53] rfl (by decide +kernel)
set_option maxRecDepth 40000 in
theorem ggX12_due_X3_gather_2 : GoodIn wsX12_due wsX3_gather_r2 := goodIn_r _ [54, 55, 56, 57, 58, 59, 60, 61, 62, 63, 64, 65, 66, 67, 68, 69, 70, 71, 72, 73, 74, 75, 76, 77] rfl (by decide +kernel)
set_option maxRecDepth 40000 in
theorem ggX12_due_X3_gather_3 : GoodIn wsX12_due wsX3_gather_r3 := goodIn_r _ [78, 79, 80, 81, 82, 83, 84, 85, 86, 87, 88, 89, 90, 91, 92, 93, 94, 95, 96, 97, 98, 99, 100, 101] rfl (by decide +kernel)
set_option maxRecDepth 40000 in
theorem ggX12_due_X3_gather_4 : GoodIn wsX12_due wsX3_gather_r4 := goodIn_r _ [102, 103, 104, 105, 106, 107, 108, 109, 110, 111, 112, 113, 114, 115, 116, 117, 118, 119, 120, 121, 122, 123, 124, 125] rfl (by decide +kernel)
set_option maxRecDepth 40000 in
theorem ggX12_due_X3_gather_5 : GoodIn wsX12_due wsX3_gather_r5 := goodIn_r _ [126, 127, 128, 129, 130, 131, 132, 133, 134, 135, 136, 137, 138, 139, 140, 141, 142, 143, 144, 145, 146, 147, 148, 149] rfl (by decide +kernel)
set_option maxRecDepth 40000 in
theorem ggX12_due_X3_gather_6 : GoodIn wsX12_due wsX3_gather_r6 := goodIn_r _ [150, 151, 152, 153, 154, 155, 156, 157, 158, 159, 160, 161, 162, 163, 164, 165, 166, 167, 168, 169, 170, 171, 172, 173] rfl (by decide +kernel)
set_option maxRecDepth 40000 in
theorem ggX12_due_X3_gather_7 : GoodIn wsX12_due wsX3_gather_r7 := goodIn_r _ [174, 175, 176, 177, 178, 179, 180, 181, 182, 183] rfl (by decide +kernel)
set_option maxRecDepth 40000 in
theorem ggX12_due_X3_gather_8 : GoodIn wsX12_due wsX30 := goodIn_r _ [195, 196, 197, 198, 199, 200, 201] rfl (by decide +kernel)
set_option maxRecDepth 40000 in
theorem ggX12_due_X3_gather_9 : GoodIn wsX12_due wsX20 := goodIn_r _ [202, 203, 204, 205, 206, 207, 208, 209] rfl (by decide +kernel)
set_option maxRecDepth 40000 in
theorem ggX12_due_X3_gather_10 : GoodIn wsX12_due wsX80 := goodIn_r _ [210, 211, 212, 213, 214, 215, 216] rfl (by decide +kernel)
set_option maxRecDepth 40000 in
theorem ggX12_due_X3_gather_11 : GoodIn wsX12_due wsX110 := goodIn_r _ [217, 218, 219, 220, 221, 222] rfl (by decide +kernel)
set_option maxRecDepth 40000 in
theorem ggX12_due_X3_gather : GoodIn wsX12_due wsX3_gather := (goodIn_app ggX12_due_X3_gather_0 (goodIn_app (goodIn_app (goodIn_app (goodIn_app (goodIn_app ggX12_due_X3_gather_1 (goodIn_app ggX12_due_X3_gather_2 (goodIn_app ggX12_due_X3_gather_3 (goodIn_app ggX12_due_X3_gather_4 (goodIn_app ggX12_due_X3_gather_5 (goodIn_app ggX12_due_X3_gather_6 ggX12_due_X3_gather_7)))))) ggX12_due_X3_gather_8) ggX12_due_X3_gather_9) ggX12_due_X3_gather_10) ggX12_due_X3_gather_11))
set_option maxRecDepth 20000 in
theorem gX12_due_X12_isDay : GoodIn wsX12_due (va_wsS RX12 120 yX12_isDay wsX12_isDay) := goodIn_app (goodIn_of _ (by decide +kernel)) ggX12_due_X12_isDay
set_option maxRecDepth 20000 in
theorem gX12_due_X12_isHad : GoodIn wsX12_due (wsV RX12 250 RX12 yX12_isHad wsX12_isHad) := goodIn_app (goodIn_r _ [6, 7, 8, 9] rfl (by decide +kernel)) ggX12_due_X12_isHad
set_option maxRecDepth 20000 in
theorem gX12_due_X3_gather : GoodIn wsX12_due (wsV RX12 253 RX3 yX3_gather wsX3_gather) := goodIn_app (goodIn_r _ [27, 28, 29, 30] rfl (by decide +kernel)) ggX12_due_X3_gather
theorem hv_X12_isHad : yX12_isHad.cls = RX12 ∧ yX12_isHad.cls ≠ "java/lang/invoke/MethodHandle" ∧ yX12_isHad.cls ≠ "java/lang/invoke/VarHandle" ∧ (parseMethodDescriptor yX12_isHad.desc).map (fun d => d.parameters.length) = some 3 := by decide +kernel
theorem hv_X3_gather : yX3_gather.cls = RX3 ∧ yX3_gather.cls ≠ "java/lang/invoke/MethodHandle" ∧ yX3_gather.cls ≠ "java/lang/invoke/VarHandle" ∧ (parseMethodDescriptor yX3_gather.desc).map (fun d => d.parameters.length) = some 3 := by decide +kernel
set_option maxRecDepth 20000 in
theorem in_X12_due_X12 : ∀ w ∈ wsX120, w ∈ wsX12_due := sub_r [184, 185, 186, 187, 188, 189, 190, 191, 192, 193, 194] rfl
set_option maxRecDepth 20000 in
theorem in_X12_due_X3 : ∀ w ∈ wsX30, w ∈ wsX12_due := sub_r [195, 196, 197, 198, 199, 200, 201] rfl
set_option maxHeartbeats 4000000 in
set_option maxRecDepth 100000 in
theorem c_X12_due (l : Launch) (D : va_G) (T : Nat → ClassId) (ad sa av : Nat → Nat) (ta : Nat) (sz : Nat) (h0 : Nat) (fa : Nat) (fs0 : List Value) (on : Nat) (dy : Int32) (mu : Int32) (pa : Int32) (fo : Nat → Int64) (wo : Nat) (la : Nat) (cl : Nat) (p0 : Nat) (p1 : Nat) (p4 : Nat) (n : Int32) (l9 : Nat → Int32) (n0 : Int32) (c1 : Nat) (c2 : Nat) (c3 : Nat) (c4 : Nat) (c5 : Nat) (c6 : Nat) (c7 : Nat) (f1 : Nat → Int32) (f2 : Nat → Int32) (f3 : Nat → Int32) (f4 : Nat → Int32) (f5 : Nat → Int32) (g0 : Nat → Int64) (g1 : Nat → Int64) (g4 : Nat → Int32) (f6 : Nat → Int32) (x1 : Int32) (x2 : Int32) (x3 : Int32) (x4 : Int32) (e0_4 : fs0[4]? = some (.ref cl)) (e0_7 : fs0[7]? = some (.ref fa)) (hn0 : 0 ≤ n0.toInt ∧ n0.toInt ≤ 24) (hok : okC f1 f3 f4 f5) (hmm : memW (VALW l9 f1 f2 f3 f4 f5) n0 n g0 g1 g4) (hlq : (1 ≤ (l9 4).toInt ∧ (l9 4).toInt ≤ 9) ∧ 1 ≤ (l9 6).toInt ∧ (l9 6).toInt ≤ 9) : Met l yX12_due wsX12_due ({ frames := 125, cells := 0, slots := 0, locals := 3987 }) (pWk [.ref h0, .int x1, .int x2, .int x3, .int x4] D T [(h0, .inr (9, fs0)), (fa, .inr (2, [.ref la, .ref cl, .ref wo, .ref on, .int dy, .int mu, .int pa])), (on, .inl (T 1, 7, .inr (.inl fo))), (wo, .inr (8, [.ref la, .ref cl, .ref p0, .ref p1, .ref p4, .int n])), (la, .inr (5, [.int (l9 0), .int (l9 1), .int (l9 2), .int (l9 3), .int (l9 4), .int (l9 5), .int (l9 6)])), (cl, .inr (1, [.int n0, .ref c1, .ref c2, .ref c3, .ref c4, .ref c5, .ref c6, .ref c7])), (c1, .inl (T 0, 24, .inl f1)), (c2, .inl (T 0, 24, .inl f2)), (c3, .inl (T 0, 24, .inl f3)), (c4, .inl (T 0, 24, .inl f4)), (c5, .inl (T 0, 24, .inl f5)), (p0, .inl (T 1, 676, .inr (.inl g0))), (p1, .inl (T 1, 676, .inr (.inl g1))), (p4, .inl (T 0, 672, .inl g4)), (c6, .inl (T 0, 24, .inl f6))] sz ad sa av ta) (va_Ql (fun (r : Int64) (u : (Nat → Int64) × Int32 × Int32 × (Nat → Int64) × (Nat → Int64) × (Nat → Int32) × Int32) => duQ l9 f1 f2 f3 f4 f5 f6 (VALW l9 f1 f2 f3 f4 f5) n0 x1 x2 x3 x4 r ∧ stW (VALW l9 f1 f2 f3 f4 f5) n0 n (fun _ => True) g0 g1 g4 u.2.2.2.1 u.2.2.2.2.1 u.2.2.2.2.2.1) (bW D (va_A [(h0, .inr (9, fs0)), (fa, .inr (2, [.ref la, .ref cl, .ref wo, .ref on, .int dy, .int mu, .int pa])), (on, .inl (T 1, 7, .inr (.inl fo))), (wo, .inr (8, [.ref la, .ref cl, .ref p0, .ref p1, .ref p4, .int n])), (la, .inr (5, [.int (l9 0), .int (l9 1), .int (l9 2), .int (l9 3), .int (l9 4), .int (l9 5), .int (l9 6)])), (cl, .inr (1, [.int n0, .ref c1, .ref c2, .ref c3, .ref c4, .ref c5, .ref c6, .ref c7])), (c1, .inl (T 0, 24, .inl f1)), (c2, .inl (T 0, 24, .inl f2)), (c3, .inl (T 0, 24, .inl f3)), (c4, .inl (T 0, 24, .inl f4)), (c5, .inl (T 0, 24, .inl f5)), (p0, .inl (T 1, 676, .inr (.inl g0))), (p1, .inl (T 1, 676, .inr (.inl g1))), (p4, .inl (T 0, 672, .inl g4)), (c6, .inl (T 0, 24, .inl f6))] sz) (fun (u : (Nat → Int64) × Int32 × Int32 × (Nat → Int64) × (Nat → Int64) × (Nat → Int32) × Int32) => [(h0, .inr (9, fs0)), (fa, .inr (2, [.ref la, .ref cl, .ref wo, .ref on, .int u.2.1, .int u.2.2.1, .int u.2.2.2.2.2.2])), (on, .inl (T 1, 7, .inr (.inl u.1))), (wo, .inr (8, [.ref la, .ref cl, .ref p0, .ref p1, .ref p4, .int n])), (la, .inr (5, [.int (l9 0), .int (l9 1), .int (l9 2), .int (l9 3), .int (l9 4), .int (l9 5), .int (l9 6)])), (cl, .inr (1, [.int n0, .ref c1, .ref c2, .ref c3, .ref c4, .ref c5, .ref c6, .ref c7])), (c1, .inl (T 0, 24, .inl f1)), (c2, .inl (T 0, 24, .inl f2)), (c3, .inl (T 0, 24, .inl f3)), (c4, .inl (T 0, 24, .inl f4)), (c5, .inl (T 0, 24, .inl f5)), (p0, .inl (T 1, 676, .inr (.inl u.2.2.2.1))), (p1, .inl (T 1, 676, .inr (.inl u.2.2.2.2.1))), (p4, .inl (T 0, 672, .inl u.2.2.2.2.2.1)), (c6, .inl (T 0, 24, .inl f6))])) (va_A [(h0, .inr (9, fs0)), (fa, .inr (2, [.ref la, .ref cl, .ref wo, .ref on, .int dy, .int mu, .int pa])), (on, .inl (T 1, 7, .inr (.inl fo))), (wo, .inr (8, [.ref la, .ref cl, .ref p0, .ref p1, .ref p4, .int n])), (la, .inr (5, [.int (l9 0), .int (l9 1), .int (l9 2), .int (l9 3), .int (l9 4), .int (l9 5), .int (l9 6)])), (cl, .inr (1, [.int n0, .ref c1, .ref c2, .ref c3, .ref c4, .ref c5, .ref c6, .ref c7])), (c1, .inl (T 0, 24, .inl f1)), (c2, .inl (T 0, 24, .inl f2)), (c3, .inl (T 0, 24, .inl f3)), (c4, .inl (T 0, 24, .inl f4)), (c5, .inl (T 0, 24, .inl f5)), (p0, .inl (T 1, 676, .inr (.inl g0))), (p1, .inl (T 1, 676, .inr (.inl g1))), (p4, .inl (T 0, 672, .inl g4)), (c6, .inl (T 0, 24, .inl f6))] sz)) 0 0 (va_A [(h0, .inr (9, fs0)), (fa, .inr (2, [.ref la, .ref cl, .ref wo, .ref on, .int dy, .int mu, .int pa])), (on, .inl (T 1, 7, .inr (.inl fo))), (wo, .inr (8, [.ref la, .ref cl, .ref p0, .ref p1, .ref p4, .int n])), (la, .inr (5, [.int (l9 0), .int (l9 1), .int (l9 2), .int (l9 3), .int (l9 4), .int (l9 5), .int (l9 6)])), (cl, .inr (1, [.int n0, .ref c1, .ref c2, .ref c3, .ref c4, .ref c5, .ref c6, .ref c7])), (c1, .inl (T 0, 24, .inl f1)), (c2, .inl (T 0, 24, .inl f2)), (c3, .inl (T 0, 24, .inl f3)), (c4, .inl (T 0, 24, .inl f4)), (c5, .inl (T 0, 24, .inl f5)), (p0, .inl (T 1, 676, .inr (.inl g0))), (p1, .inl (T 1, 676, .inr (.inl g1))), (p4, .inl (T 0, 672, .inl g4)), (c6, .inl (T 0, 24, .inl f6))] sz) := by
  refine Met.ofW (cc := cX12_due) (maxL := 5) (ret := (some .long)) (by decide +kernel) rfl ?_
  intro p e s m args below meth c s₁ B hml hv
  obtain ⟨rfl, hsz, hP, hE, hD0, hV⟩ := hv
  have hx := B.exec
  have hb := B.bytes
  have hr := B.returns
  have hts := atoms_spec (ws := wsX12_due) B.pre
  have hown : s.vm.findClass RX12 = some m.cls := findClass_of_methodNamed B.named
  have hlocks := B.notSynchronized
  subst hsz
  have hD := hD0.self (sz := s.heap.size)
  generalize hAe : va_A [(h0, .inr (9, fs0)), (fa, .inr (2, [.ref la, .ref cl, .ref wo, .ref on, .int dy, .int mu, .int pa])), (on, .inl (T 1, 7, .inr (.inl fo))), (wo, .inr (8, [.ref la, .ref cl, .ref p0, .ref p1, .ref p4, .int n])), (la, .inr (5, [.int (l9 0), .int (l9 1), .int (l9 2), .int (l9 3), .int (l9 4), .int (l9 5), .int (l9 6)])), (cl, .inr (1, [.int n0, .ref c1, .ref c2, .ref c3, .ref c4, .ref c5, .ref c6, .ref c7])), (c1, .inl (T 0, 24, .inl f1)), (c2, .inl (T 0, 24, .inl f2)), (c3, .inl (T 0, 24, .inl f3)), (c4, .inl (T 0, 24, .inl f4)), (c5, .inl (T 0, 24, .inl f5)), (p0, .inl (T 1, 676, .inr (.inl g0))), (p1, .inl (T 1, 676, .inr (.inl g1))), (p4, .inl (T 0, 672, .inl g4)), (c6, .inl (T 0, 24, .inl f6))] s.heap.size = A at hD hV ⊢
  have hA : ∀ q : Nat, s.heap.size ≤ q → A q := fun q h => by rw [← hAe]; exact Or.inr h
  have hS : va_S A s.heap s.heap [] := va_S.rf
  have hP : va_P D vwCl [(h0, .inr (9, fs0)), (fa, .inr (2, [.ref la, .ref cl, .ref wo, .ref on, .int dy, .int mu, .int pa])), (on, .inl (T 1, 7, .inr (.inl fo))), (wo, .inr (8, [.ref la, .ref cl, .ref p0, .ref p1, .ref p4, .int n])), (la, .inr (5, [.int (l9 0), .int (l9 1), .int (l9 2), .int (l9 3), .int (l9 4), .int (l9 5), .int (l9 6)])), (cl, .inr (1, [.int n0, .ref c1, .ref c2, .ref c3, .ref c4, .ref c5, .ref c6, .ref c7])), (c1, .inl (T 0, 24, .inl f1)), (c2, .inl (T 0, 24, .inl f2)), (c3, .inl (T 0, 24, .inl f3)), (c4, .inl (T 0, 24, .inl f4)), (c5, .inl (T 0, 24, .inl f5)), (p0, .inl (T 1, 676, .inr (.inl g0))), (p1, .inl (T 1, 676, .inr (.inl g1))), (p4, .inl (T 0, 672, .inl g4)), (c6, .inl (T 0, 24, .inl f6))] s.heap := hP
  have hl := lv_entry ([.ref h0, .int x1, .int x2, .int x3, .int x4]) (n := 5) (Nat.le_of_ble_eq_true rfl)
  rw [lg_entry_eq]
  generalize (lg_sl ([.ref h0, .int x1, .int x2, .int x3, .int x4]) ++ List.replicate (5 - (lg_sl ([.ref h0, .int x1, .int x2, .int x3, .int x4])).length) Slot.unset).toArray = ls at hl ⊢
  have hl : lv_has ls 5 [(0, .ref h0), (1, .int x1), (2, .int x2), (3, .int x3), (4, .int x4)] := hl
  clear hD0
  have hst : stW (VALW l9 f1 f2 f3 f4 f5) n0 n (fun _ => True) g0 g1 g4 g0 g1 g4 := stW_rf hmm
  refine lv_aload_n hx hb dX12_due_0 rfl (lv_at hl 0 rfl) ?_
  refine lv_iload_n hx hb dX12_due_1 rfl (lv_at hl 1 rfl) ?_
  refine lv_iload_n hx hb dX12_due_2 rfl (lv_at hl 2 rfl) ?_
  refine lv_iload_n hx hb dX12_due_3 rfl (lv_at hl 3 rfl) ?_
  refine vp_callSi (W.runV (As := [.int x1, .int x2, .int x3]) (rest := []) ⟨hx, hb, hml, hown, hts⟩ (c_X12_isHad l D T h0 fs0 cl [.int n0, .ref c1, .ref c2, .ref c3, .ref c4, .ref c5, .ref c6, .ref c7] x1 x2 x3 n0 e0_4 rfl (by omega)) (cwV 3 hts gX12_due_X12_isHad rfl rfl rfl hv_X12_isHad ⟨Nat.le_of_ble_eq_true rfl, Nat.le_of_ble_eq_true rfl⟩) (pR_V (q := (RX12, TX12, 11)) (ci := 9) (q0 := 0) hP hE rfl rfl [0, 5] rfl) rfl rfl hl.1 rfl (lv_room (Nat.le_of_ble_eq_true rfl)) dX12_due_4 ⟨Nat.le_of_ble_eq_true rfl, Nat.le_of_ble_eq_true rfl⟩) (fun r_1 hr_1 => ?_)
  rcases bool_post hr_1 with ⟨c_2, rfl⟩ | ⟨c_2, rfl⟩
  · refine lv_if_eq (tgt := 18) hx hb dX12_due_7 (by decide +kernel) (fun c9 => absurd c9 (by decide +kernel)) (fun _ => ?_)
    refine lv_iload hx hb dX12_due_10 (lv_at hl 4 rfl) ?_
    refine vp_callSi (W.runS (As := [.int x4]) (rest := []) ⟨hx, hb, hml, hown, hts⟩ (c_X12_isDay l D T x4) (va_cwS 1 hts gX12_due_X12_isDay rfl rfl rfl hs_X12_isDay ⟨Nat.le_of_ble_eq_true rfl, Nat.le_of_ble_eq_true rfl⟩) (pR_S hP hE [] rfl) rfl rfl hl.1 rfl (lv_room (Nat.le_of_ble_eq_true rfl)) dX12_due_12 ⟨Nat.le_of_ble_eq_true rfl, Nat.le_of_ble_eq_true rfl⟩) (fun r_3 hr_3 => ?_)
    rcases bool_post hr_3 with ⟨c_4, rfl⟩ | ⟨c_4, rfl⟩
    · refine lv_if_ne (tgt := 22) hx hb dX12_due_15 (by decide +kernel) (fun _ => ?_) (fun c9 => absurd c9 (by decide +kernel))
      refine lv_aload_n hx hb dX12_due_22 rfl (lv_at hl 0 rfl) ?_
      refine va_get (D := D) (ci := 9) (v := .ref fa) (C := RX12) (T := TX12) (N := 11) hx hb hts in_X12_due_X12 hown hE.1 hP 0 rfl rfl 7 (by decide +kernel) (hts (.fieldLink RX12 52 "ClauseBook" "falling" "LClauseBook$Falling;") (List.mem_of_getElem? (i := 2) rfl)) (fun _ h9 => h9) e0_7 dX12_due_23 ?_
      refine lv_iload_n hx hb dX12_due_26 rfl (lv_at hl 1 rfl) ?_
      refine lv_iload_n hx hb dX12_due_27 rfl (lv_at hl 2 rfl) ?_
      refine lv_iload_n hx hb dX12_due_28 rfl (lv_at hl 3 rfl) ?_
      have hFc := va_free (wc := [(fa, .inr (2, [.ref la, .ref cl, .ref wo, .ref on, .int dy, .int mu, .int pa])), (on, .inl (T 1, 7, .inr (.inl fo))), (wo, .inr (8, [.ref la, .ref cl, .ref p0, .ref p1, .ref p4, .int n])), (la, .inr (5, [.int (l9 0), .int (l9 1), .int (l9 2), .int (l9 3), .int (l9 4), .int (l9 5), .int (l9 6)])), (cl, .inr (1, [.int n0, .ref c1, .ref c2, .ref c3, .ref c4, .ref c5, .ref c6, .ref c7])), (c1, .inl (T 0, 24, .inl f1)), (c2, .inl (T 0, 24, .inl f2)), (c3, .inl (T 0, 24, .inl f3)), (c4, .inl (T 0, 24, .inl f4)), (c5, .inl (T 0, 24, .inl f5)), (p0, .inl (T 1, 676, .inr (.inl g0))), (p1, .inl (T 1, 676, .inr (.inl g1))), (p4, .inl (T 0, 672, .inl g4)), (c6, .inl (T 0, 24, .inl f6))]) hD hS hA [1, 2, 3, 4, 5, 6, 7, 8, 9, 10, 11, 12, 13, 14] rfl
      refine va_callv (va_runV (As := [.int x1, .int x2, .int x3]) (rest := []) ⟨hx, hb, hml, hown, hts⟩ (c_X3_gather l D T ad sa av ta _ fa on dy mu pa fo wo la cl p0 p1 p4 n l9 n0 c1 c2 c3 c4 c5 c6 c7 f1 f2 f3 f4 f5 g0 g1 g4 f6 x1 x2 x3 (by omega) (by omega) (by omega) hok (by omega) hmm hlq) (cwV 3 hts gX12_due_X3_gather rfl rfl rfl hv_X3_gather ⟨Nat.le_of_ble_eq_true rfl, Nat.le_of_ble_eq_true rfl⟩) (pWk_V (q := (RX3, TX3, 7)) (ci := 2) (q0 := 1) hP hE hD hV hS hFc rfl rfl [1, 2, 3, 4, 5, 6, 7, 8, 9, 10, 11, 12, 13, 14] (by decide +kernel) rfl rfl) rfl rfl hl.1 rfl (lv_room (Nat.le_of_ble_eq_true rfl)) dX12_due_29 ⟨Nat.le_of_ble_eq_true rfl, Nat.le_of_ble_eq_true rfl⟩) hS (fun q _ h => hFc q h) hFc (fun u_6 t H1 locs ht hvm hr_5 hB hz1 hk1 hS => ?_)
      obtain ⟨f_7, n_8, n_9, f_10, f_11, f_12⟩ := u_6
      have hsfhr_5 : stW (VALW l9 f1 f2 f3 f4 f5) n0 n (fun _ => True) g0 g1 g4 f_10 f_11 f_12 := hr_5.2
      have hst : stW (VALW l9 f1 f2 f3 f4 f5) n0 n (fun _ => True) g0 g1 g4 f_10 f_11 f_12 := hst.tr hsfhr_5 (fun _ _ => trivial)
      have hmm : memW (VALW l9 f1 f2 f3 f4 f5) n0 n f_10 f_11 f_12 := hst.1
      have hgahr_5 : dusP l9 f1 f2 f3 f4 f5 f6 (VALW l9 f1 f2 f3 f4 f5) x3 x1 x2 ((f_7, n_8, n_9) : duS) := hr_5.1
      obtain ⟨hP1, hD1⟩ := hB
      rw [ht] at hP1
      obtain ⟨hP, hD⟩ := va_repl [(h0, .inr (9, fs0)), (fa, .inr (2, [.ref la, .ref cl, .ref wo, .ref on, .int n_8, .int n_9, .int x3])), (on, .inl (T 1, 7, .inr (.inl f_7))), (wo, .inr (8, [.ref la, .ref cl, .ref p0, .ref p1, .ref p4, .int n])), (la, .inr (5, [.int (l9 0), .int (l9 1), .int (l9 2), .int (l9 3), .int (l9 4), .int (l9 5), .int (l9 6)])), (cl, .inr (1, [.int n0, .ref c1, .ref c2, .ref c3, .ref c4, .ref c5, .ref c6, .ref c7])), (c1, .inl (T 0, 24, .inl f1)), (c2, .inl (T 0, 24, .inl f2)), (c3, .inl (T 0, 24, .inl f3)), (c4, .inl (T 0, 24, .inl f4)), (c5, .inl (T 0, 24, .inl f5)), (p0, .inl (T 1, 676, .inr (.inl f_10))), (p1, .inl (T 1, 676, .inr (.inl f_11))), (p4, .inl (T 0, 672, .inl f_12)), (c6, .inl (T 0, 24, .inl f6))] hP hD [1, 2, 3, 4, 5, 6, 7, 8, 9, 10, 11, 12, 13, 14] [1, 2, 3, 4, 5, 6, 7, 8, 9, 10, 11, 12, 13, 14] rfl (by decide +kernel) rfl rfl rfl hk1 hP1
      clear hP1 hD1 hFc
      generalize H1 = H at hP hS ⊢
      refine lv_aload_n hx hb dX12_due_32 rfl (lv_at hl 0 rfl) ?_
      refine va_get (D := D) (ci := 9) (v := .ref fa) (C := RX12) (T := TX12) (N := 11) hx hb hts in_X12_due_X12 hown hE.1 hP 0 rfl rfl 7 (by decide +kernel) (hts (.fieldLink RX12 52 "ClauseBook" "falling" "LClauseBook$Falling;") (List.mem_of_getElem? (i := 2) rfl)) (fun _ h9 => h9) e0_7 dX12_due_33 ?_
      refine va_get (D := D) (ci := 2) (v := .int n_9) (C := RX3) (T := TX3) (N := 7) hx hb hts in_X12_due_X3 hown hE.1 hP 1 rfl rfl 5 (by decide +kernel) (hts (.fieldLink RX12 256 "ClauseBook$Falling" "much" "Z") (List.mem_of_getElem? (i := 3) rfl)) (fun _ h9 => h9) rfl dX12_due_36 ?_
      refine lv_if_eq (tgt := 48) hx hb dX12_due_39 (by decide +kernel) (fun c_13 => ?_) (fun c_13 => ?_)
      · rw [fa_eq] at c_13
        try rw [ti_0] at c_13
        refine lv_aload_n hx hb dX12_due_48 rfl (lv_at hl 0 rfl) ?_
        refine va_get (D := D) (ci := 9) (v := .ref fa) (C := RX12) (T := TX12) (N := 11) hx hb hts in_X12_due_X12 hown hE.1 hP 0 rfl rfl 7 (by decide +kernel) (hts (.fieldLink RX12 52 "ClauseBook" "falling" "LClauseBook$Falling;") (List.mem_of_getElem? (i := 2) rfl)) (fun _ h9 => h9) e0_7 dX12_due_49 ?_
        refine va_get (D := D) (ci := 2) (v := .ref on) (C := RX3) (T := TX3) (N := 7) hx hb hts in_X12_due_X3 hown hE.1 hP 1 rfl rfl 3 (by decide +kernel) (hts (.fieldLink RX12 259 "ClauseBook$Falling" "on" "[J") (List.mem_of_getElem? (i := 5) rfl)) (fun _ h9 => h9) rfl dX12_due_52 ?_
        refine lv_iload hx hb dX12_due_55 (lv_at hl 4 rfl) ?_
        refine va_lald hx hb hE.1 hP 2 1 rfl rfl (by rw [vp_in_iff]; first | omega | (subst_vars; omega)) dX12_due_57 ?_
        refine lv_topl (fun z_14 ez_14 => ?_)
        exact W.lret hx hb hr (fun t ht hW => ⟨⟨_, (f_7, n_8, n_9, f_10, f_11, f_12, x3), rfl, ⟨(Or.inr ⟨⟨⟨(by omega), (by omega), (by omega)⟩, (by omega), (by omega)⟩, ((f_7, n_8, n_9) : duS), hgahr_5, Or.inr ⟨(show (n_9 : Int32).toInt = 0 from by omega), (by first | exact ez_14 | rfl)⟩⟩), hst⟩, by rw [ht]; exact hP.sub [0, 1, 2, 3, 4, 5, 6, 7, 8, 9, 10, 11, 12, 13, 14] rfl, hD.sub [0, 1, 2, 3, 4, 5, 6, 7, 8, 9, 10, 11, 12, 13, 14] (by decide +kernel) rfl⟩, hS.F ht⟩) hS.2.2 dX12_due_58
      · rw [fa_eq] at c_13
        try rw [ti_0] at c_13
        refine lv_ldc2 (v := (-4611686018427387909)) hx hb hown (hts (.constantLong RX12 200 (-4611686018427387909)) (List.mem_of_getElem? (i := 4) rfl)) dX12_due_42 ?_
        refine lv_goto (tgt := 58) hx hb dX12_due_45 (by decide +kernel) ?_
        exact W.lret hx hb hr (fun t ht hW => ⟨⟨_, (f_7, n_8, n_9, f_10, f_11, f_12, x3), rfl, ⟨(Or.inr ⟨⟨⟨(by omega), (by omega), (by omega)⟩, (by omega), (by omega)⟩, ((f_7, n_8, n_9) : duS), hgahr_5, Or.inl ⟨(show ¬ (n_9 : Int32).toInt = 0 from by omega), (by decide +kernel)⟩⟩), hst⟩, by rw [ht]; exact hP.sub [0, 1, 2, 3, 4, 5, 6, 7, 8, 9, 10, 11, 12, 13, 14] rfl, hD.sub [0, 1, 2, 3, 4, 5, 6, 7, 8, 9, 10, 11, 12, 13, 14] (by decide +kernel) rfl⟩, hS.F ht⟩) hS.2.2 dX12_due_58
    · refine lv_if_ne (tgt := 22) hx hb dX12_due_15 (by decide +kernel) (fun c9 => absurd c9 (by decide +kernel)) (fun _ => ?_)
      refine lv_ldc2 (v := (-4611686018427387906)) hx hb hown (hts (.constantLong RX12 183 (-4611686018427387906)) (List.mem_of_getElem? (i := 1) rfl)) dX12_due_18 ?_
      exact W.lret hx hb hr (fun t ht hW => ⟨⟨_, (fo, dy, mu, g0, g1, g4, pa), rfl, ⟨(Or.inl ⟨(fun h9 => by obtain ⟨⟨h1, h2, h3⟩, h4⟩ := h9; omega), (by decide +kernel)⟩), hst⟩, by rw [ht]; exact hP.sub [0, 1, 2, 3, 4, 5, 6, 7, 8, 9, 10, 11, 12, 13, 14] rfl, hD.sub [0, 1, 2, 3, 4, 5, 6, 7, 8, 9, 10, 11, 12, 13, 14] (by decide +kernel) rfl⟩, hS.F ht⟩) hS.2.2 dX12_due_21
  · refine lv_if_eq (tgt := 18) hx hb dX12_due_7 (by decide +kernel) (fun _ => ?_) (fun c9 => absurd c9 (by decide +kernel))
    refine lv_ldc2 (v := (-4611686018427387906)) hx hb hown (hts (.constantLong RX12 183 (-4611686018427387906)) (List.mem_of_getElem? (i := 1) rfl)) dX12_due_18 ?_
    exact W.lret hx hb hr (fun t ht hW => ⟨⟨_, (fo, dy, mu, g0, g1, g4, pa), rfl, ⟨(Or.inl ⟨(fun h9 => by obtain ⟨⟨h1, h2, h3⟩, h4⟩ := h9; omega), (by decide +kernel)⟩), hst⟩, by rw [ht]; exact hP.sub [0, 1, 2, 3, 4, 5, 6, 7, 8, 9, 10, 11, 12, 13, 14] rfl, hD.sub [0, 1, 2, 3, 4, 5, 6, 7, 8, 9, 10, 11, 12, 13, 14] (by decide +kernel) rfl⟩, hS.F ht⟩) hS.2.2 dX12_due_21
theorem dX12_dueDays_0 : decode cX12_dueDays 0 = .ok (.aload_n 0, 1) := by decide +kernel
theorem dX12_dueDays_1 : decode cX12_dueDays 1 = .ok (.iload_n 1, 1) := by decide +kernel
theorem dX12_dueDays_10 : decode cX12_dueDays 10 = .ok (.bipush (-2), 2) := by decide +kernel
theorem dX12_dueDays_12 : decode cX12_dueDays 12 = .ok (.ireturn, 1) := by decide +kernel
theorem dX12_dueDays_13 : decode cX12_dueDays 13 = .ok (.aload_n 0, 1) := by decide +kernel
theorem dX12_dueDays_14 : decode cX12_dueDays 14 = .ok (.getfield 52, 3) := by decide +kernel
theorem dX12_dueDays_17 : decode cX12_dueDays 17 = .ok (.iload_n 1, 1) := by decide +kernel
theorem dX12_dueDays_18 : decode cX12_dueDays 18 = .ok (.iload_n 2, 1) := by decide +kernel
theorem dX12_dueDays_19 : decode cX12_dueDays 19 = .ok (.iload_n 3, 1) := by decide +kernel
theorem dX12_dueDays_2 : decode cX12_dueDays 2 = .ok (.iload_n 2, 1) := by decide +kernel
theorem dX12_dueDays_20 : decode cX12_dueDays 20 = .ok (.invokevirtual 253, 3) := by decide +kernel
theorem dX12_dueDays_23 : decode cX12_dueDays 23 = .ok (.aload_n 0, 1) := by decide +kernel
theorem dX12_dueDays_24 : decode cX12_dueDays 24 = .ok (.getfield 52, 3) := by decide +kernel
theorem dX12_dueDays_27 : decode cX12_dueDays 27 = .ok (.getfield 256, 3) := by decide +kernel
theorem dX12_dueDays_3 : decode cX12_dueDays 3 = .ok (.iload_n 3, 1) := by decide +kernel
theorem dX12_dueDays_30 : decode cX12_dueDays 30 = .ok (.ifCond .eq 8, 3) := by decide +kernel
theorem dX12_dueDays_33 : decode cX12_dueDays 33 = .ok (.bipush (-5), 2) := by decide +kernel
theorem dX12_dueDays_35 : decode cX12_dueDays 35 = .ok (.goto 10, 3) := by decide +kernel
theorem dX12_dueDays_38 : decode cX12_dueDays 38 = .ok (.aload_n 0, 1) := by decide +kernel
theorem dX12_dueDays_39 : decode cX12_dueDays 39 = .ok (.getfield 52, 3) := by decide +kernel
theorem dX12_dueDays_4 : decode cX12_dueDays 4 = .ok (.invokevirtual 250, 3) := by decide +kernel
theorem dX12_dueDays_42 : decode cX12_dueDays 42 = .ok (.getfield 262, 3) := by decide +kernel
theorem dX12_dueDays_45 : decode cX12_dueDays 45 = .ok (.ireturn, 1) := by decide +kernel
theorem dX12_dueDays_7 : decode cX12_dueDays 7 = .ok (.ifCond .ne 6, 3) := by decide +kernel
set_option maxRecDepth 20000 in
theorem ggX12_dueDays_X12_isHad : GoodIn wsX12_dueDays wsX12_isHad := goodIn_r _ [8, 9, 10, 11, 12, 13, 14, 15, 16, 7, 17, 18, 19, 20, 21, 22, 23, 24, 182, 183, 184, 185, 186, 187, 188, 189, 190, 191, 192, 200, 201, 202, 203, 204, 205, 206, 207] rfl (by decide +kernel)
set_option maxRecDepth 40000 in
theorem ggX12_dueDays_X3_gather_0 : GoodIn wsX12_dueDays [.code yX3_gather cX3_gather 5 none] := goodIn_r _ [29] rfl (by decide +kernel)
set_option maxRecDepth 40000 in
theorem ggX12_dueDays_X3_gather_1 : GoodIn wsX12_dueDays wsX3_gather_r1 := goodIn_r _ [30, 31, 32, 33, 34, 35, 36, 37, 38, 28, 39, 40, 41, 42, 43, 44, 45, 46, 47, 48, 49, 50, 13, 51] rfl (by decide +kernel)
set_option maxRecDepth 40000 in
theorem ggX12_dueDays_X3_gather_2 : GoodIn wsX12_dueDays wsX3_gather_r2 := goodIn_r _ [52, 53, 54, 55, 56, 57, 58, 59, 60, 61, 62, 63, 64, 65, 66, 67, 68, 69, 70, 71, 72, 73, 74, 75] rfl (by decide +kernel)
set_option maxRecDepth 40000 in
theorem ggX12_dueDays_X3_gather_3 : GoodIn wsX12_dueDays wsX3_gather_r3 := goodIn_r _ [76, 77, 78, 79, 80, 81, 82, 83, 84, 85, 86, 87, 88, 89, 90, 91, 92, 93, 94, 95, 96, 97, 98, 99] rfl (by decide +kernel)
set_option maxRecDepth 40000 in
theorem ggX12_dueDays_X3_gather_4 : GoodIn wsX12_dueDays wsX3_gather_r4 := goodIn_r _ [100, 101, 102, 103, 104, 105, 106, 107, 108, 109, 110, 111, 112, 113, 114, 115, 116, 117, 118, 119, 120, 121, 122, 123] rfl (by decide +kernel)
set_option maxRecDepth 40000 in
theorem ggX12_dueDays_X3_gather_5 : GoodIn wsX12_dueDays wsX3_gather_r5 := goodIn_r _ [124, 125, 126, 127, 128, 129, 130, 131, 132, 133, 134, 135, 136, 137, 138, 139, 140, 141, 142, 143, 144, 145, 146, 147] rfl (by decide +kernel)
set_option maxRecDepth 40000 in
theorem ggX12_dueDays_X3_gather_6 : GoodIn wsX12_dueDays wsX3_gather_r6 := goodIn_r _ [148, 149, 150, 151, 152, 153, 154, 155, 156, 157, 158, 159, 160, 161, 162, 163, 164, 165, 166, 167, 168, 169, 170, 171] rfl (by decide +kernel)
set_option maxRecDepth 40000 in
theorem ggX12_dueDays_X3_gather_7 : GoodIn wsX12_dueDays wsX3_gather_r7 := goodIn_r _ [172, 173, 174, 175, 176, 177, 178, 179, 180, 181] rfl (by decide +kernel)
set_option maxRecDepth 40000 in
theorem ggX12_dueDays_X3_gather_8 : GoodIn wsX12_dueDays wsX30 := goodIn_r _ [193, 194, 195, 196, 197, 198, 199] rfl (by decide +kernel)
set_option maxRecDepth 40000 in
theorem ggX12_dueDays_X3_gather_9 : GoodIn wsX12_dueDays wsX20 := goodIn_r _ [200, 201, 202, 203, 204, 205, 206, 207] rfl (by decide +kernel)
set_option maxRecDepth 40000 in
theorem ggX12_dueDays_X3_gather_10 : GoodIn wsX12_dueDays wsX80 := goodIn_r _ [208, 209, 210, 211, 212, 213, 214] rfl (by decide +kernel)
set_option maxRecDepth 40000 in
theorem ggX12_dueDays_X3_gather_11 : GoodIn wsX12_dueDays wsX110 := goodIn_r _ [215, 216, 217, 218, 219, 220] rfl (by decide +kernel)
set_option maxRecDepth 40000 in
theorem ggX12_dueDays_X3_gather : GoodIn wsX12_dueDays wsX3_gather := (goodIn_app ggX12_dueDays_X3_gather_0 (goodIn_app (goodIn_app (goodIn_app (goodIn_app (goodIn_app ggX12_dueDays_X3_gather_1 (goodIn_app ggX12_dueDays_X3_gather_2 (goodIn_app ggX12_dueDays_X3_gather_3 (goodIn_app ggX12_dueDays_X3_gather_4 (goodIn_app ggX12_dueDays_X3_gather_5 (goodIn_app ggX12_dueDays_X3_gather_6 ggX12_dueDays_X3_gather_7)))))) ggX12_dueDays_X3_gather_8) ggX12_dueDays_X3_gather_9) ggX12_dueDays_X3_gather_10) ggX12_dueDays_X3_gather_11))
set_option maxRecDepth 20000 in
theorem gX12_dueDays_X12_isHad : GoodIn wsX12_dueDays (wsV RX12 250 RX12 yX12_isHad wsX12_isHad) := goodIn_app (goodIn_r _ [4, 5, 6, 7] rfl (by decide +kernel)) ggX12_dueDays_X12_isHad
set_option maxRecDepth 20000 in
theorem gX12_dueDays_X3_gather : GoodIn wsX12_dueDays (wsV RX12 253 RX3 yX3_gather wsX3_gather) := goodIn_app (goodIn_r _ [25, 26, 27, 28] rfl (by decide +kernel)) ggX12_dueDays_X3_gather
set_option maxRecDepth 20000 in
theorem in_X12_dueDays_X12 : ∀ w ∈ wsX120, w ∈ wsX12_dueDays := sub_r [182, 183, 184, 185, 186, 187, 188, 189, 190, 191, 192] rfl
set_option maxRecDepth 20000 in
theorem in_X12_dueDays_X3 : ∀ w ∈ wsX30, w ∈ wsX12_dueDays := sub_r [193, 194, 195, 196, 197, 198, 199] rfl
set_option maxHeartbeats 4000000 in
set_option maxRecDepth 100000 in
theorem c_X12_dueDays (l : Launch) (D : va_G) (T : Nat → ClassId) (ad sa av : Nat → Nat) (ta : Nat) (sz : Nat) (h0 : Nat) (fa : Nat) (fs0 : List Value) (on : Nat) (dy : Int32) (mu : Int32) (pa : Int32) (fo : Nat → Int64) (wo : Nat) (la : Nat) (cl : Nat) (p0 : Nat) (p1 : Nat) (p4 : Nat) (n : Int32) (l9 : Nat → Int32) (n0 : Int32) (c1 : Nat) (c2 : Nat) (c3 : Nat) (c4 : Nat) (c5 : Nat) (c6 : Nat) (c7 : Nat) (f1 : Nat → Int32) (f2 : Nat → Int32) (f3 : Nat → Int32) (f4 : Nat → Int32) (f5 : Nat → Int32) (g0 : Nat → Int64) (g1 : Nat → Int64) (g4 : Nat → Int32) (f6 : Nat → Int32) (x1 : Int32) (x2 : Int32) (x3 : Int32) (e0_4 : fs0[4]? = some (.ref cl)) (e0_7 : fs0[7]? = some (.ref fa)) (hn0 : 0 ≤ n0.toInt ∧ n0.toInt ≤ 24) (hok : okC f1 f3 f4 f5) (hmm : memW (VALW l9 f1 f2 f3 f4 f5) n0 n g0 g1 g4) (hlq : (1 ≤ (l9 4).toInt ∧ (l9 4).toInt ≤ 9) ∧ 1 ≤ (l9 6).toInt ∧ (l9 6).toInt ≤ 9) : Met l yX12_dueDays wsX12_dueDays ({ frames := 125, cells := 0, slots := 0, locals := 3987 }) (pWk [.ref h0, .int x1, .int x2, .int x3] D T [(h0, .inr (9, fs0)), (fa, .inr (2, [.ref la, .ref cl, .ref wo, .ref on, .int dy, .int mu, .int pa])), (on, .inl (T 1, 7, .inr (.inl fo))), (wo, .inr (8, [.ref la, .ref cl, .ref p0, .ref p1, .ref p4, .int n])), (la, .inr (5, [.int (l9 0), .int (l9 1), .int (l9 2), .int (l9 3), .int (l9 4), .int (l9 5), .int (l9 6)])), (cl, .inr (1, [.int n0, .ref c1, .ref c2, .ref c3, .ref c4, .ref c5, .ref c6, .ref c7])), (c1, .inl (T 0, 24, .inl f1)), (c2, .inl (T 0, 24, .inl f2)), (c3, .inl (T 0, 24, .inl f3)), (c4, .inl (T 0, 24, .inl f4)), (c5, .inl (T 0, 24, .inl f5)), (p0, .inl (T 1, 676, .inr (.inl g0))), (p1, .inl (T 1, 676, .inr (.inl g1))), (p4, .inl (T 0, 672, .inl g4)), (c6, .inl (T 0, 24, .inl f6))] sz ad sa av ta) (va_Qi (fun (r : Int32) (u : (Nat → Int64) × Int32 × Int32 × (Nat → Int64) × (Nat → Int64) × (Nat → Int32) × Int32) => ddQ l9 f1 f2 f3 f4 f5 f6 (VALW l9 f1 f2 f3 f4 f5) n0 x1 x2 x3 r ∧ stW (VALW l9 f1 f2 f3 f4 f5) n0 n (fun _ => True) g0 g1 g4 u.2.2.2.1 u.2.2.2.2.1 u.2.2.2.2.2.1) (bW D (va_A [(h0, .inr (9, fs0)), (fa, .inr (2, [.ref la, .ref cl, .ref wo, .ref on, .int dy, .int mu, .int pa])), (on, .inl (T 1, 7, .inr (.inl fo))), (wo, .inr (8, [.ref la, .ref cl, .ref p0, .ref p1, .ref p4, .int n])), (la, .inr (5, [.int (l9 0), .int (l9 1), .int (l9 2), .int (l9 3), .int (l9 4), .int (l9 5), .int (l9 6)])), (cl, .inr (1, [.int n0, .ref c1, .ref c2, .ref c3, .ref c4, .ref c5, .ref c6, .ref c7])), (c1, .inl (T 0, 24, .inl f1)), (c2, .inl (T 0, 24, .inl f2)), (c3, .inl (T 0, 24, .inl f3)), (c4, .inl (T 0, 24, .inl f4)), (c5, .inl (T 0, 24, .inl f5)), (p0, .inl (T 1, 676, .inr (.inl g0))), (p1, .inl (T 1, 676, .inr (.inl g1))), (p4, .inl (T 0, 672, .inl g4)), (c6, .inl (T 0, 24, .inl f6))] sz) (fun (u : (Nat → Int64) × Int32 × Int32 × (Nat → Int64) × (Nat → Int64) × (Nat → Int32) × Int32) => [(h0, .inr (9, fs0)), (fa, .inr (2, [.ref la, .ref cl, .ref wo, .ref on, .int u.2.1, .int u.2.2.1, .int u.2.2.2.2.2.2])), (on, .inl (T 1, 7, .inr (.inl u.1))), (wo, .inr (8, [.ref la, .ref cl, .ref p0, .ref p1, .ref p4, .int n])), (la, .inr (5, [.int (l9 0), .int (l9 1), .int (l9 2), .int (l9 3), .int (l9 4), .int (l9 5), .int (l9 6)])), (cl, .inr (1, [.int n0, .ref c1, .ref c2, .ref c3, .ref c4, .ref c5, .ref c6, .ref c7])), (c1, .inl (T 0, 24, .inl f1)), (c2, .inl (T 0, 24, .inl f2)), (c3, .inl (T 0, 24, .inl f3)), (c4, .inl (T 0, 24, .inl f4)), (c5, .inl (T 0, 24, .inl f5)), (p0, .inl (T 1, 676, .inr (.inl u.2.2.2.1))), (p1, .inl (T 1, 676, .inr (.inl u.2.2.2.2.1))), (p4, .inl (T 0, 672, .inl u.2.2.2.2.2.1)), (c6, .inl (T 0, 24, .inl f6))])) (va_A [(h0, .inr (9, fs0)), (fa, .inr (2, [.ref la, .ref cl, .ref wo, .ref on, .int dy, .int mu, .int pa])), (on, .inl (T 1, 7, .inr (.inl fo))), (wo, .inr (8, [.ref la, .ref cl, .ref p0, .ref p1, .ref p4, .int n])), (la, .inr (5, [.int (l9 0), .int (l9 1), .int (l9 2), .int (l9 3), .int (l9 4), .int (l9 5), .int (l9 6)])), (cl, .inr (1, [.int n0, .ref c1, .ref c2, .ref c3, .ref c4, .ref c5, .ref c6, .ref c7])), (c1, .inl (T 0, 24, .inl f1)), (c2, .inl (T 0, 24, .inl f2)), (c3, .inl (T 0, 24, .inl f3)), (c4, .inl (T 0, 24, .inl f4)), (c5, .inl (T 0, 24, .inl f5)), (p0, .inl (T 1, 676, .inr (.inl g0))), (p1, .inl (T 1, 676, .inr (.inl g1))), (p4, .inl (T 0, 672, .inl g4)), (c6, .inl (T 0, 24, .inl f6))] sz)) 0 0 (va_A [(h0, .inr (9, fs0)), (fa, .inr (2, [.ref la, .ref cl, .ref wo, .ref on, .int dy, .int mu, .int pa])), (on, .inl (T 1, 7, .inr (.inl fo))), (wo, .inr (8, [.ref la, .ref cl, .ref p0, .ref p1, .ref p4, .int n])), (la, .inr (5, [.int (l9 0), .int (l9 1), .int (l9 2), .int (l9 3), .int (l9 4), .int (l9 5), .int (l9 6)])), (cl, .inr (1, [.int n0, .ref c1, .ref c2, .ref c3, .ref c4, .ref c5, .ref c6, .ref c7])), (c1, .inl (T 0, 24, .inl f1)), (c2, .inl (T 0, 24, .inl f2)), (c3, .inl (T 0, 24, .inl f3)), (c4, .inl (T 0, 24, .inl f4)), (c5, .inl (T 0, 24, .inl f5)), (p0, .inl (T 1, 676, .inr (.inl g0))), (p1, .inl (T 1, 676, .inr (.inl g1))), (p4, .inl (T 0, 672, .inl g4)), (c6, .inl (T 0, 24, .inl f6))] sz) := by
  refine Met.ofW (cc := cX12_dueDays) (maxL := 4) (ret := (some .int)) (by decide +kernel) rfl ?_
  intro p e s m args below meth c s₁ B hml hv
  obtain ⟨rfl, hsz, hP, hE, hD0, hV⟩ := hv
  have hx := B.exec
  have hb := B.bytes
  have hr := B.returns
  have hts := atoms_spec (ws := wsX12_dueDays) B.pre
  have hown : s.vm.findClass RX12 = some m.cls := findClass_of_methodNamed B.named
  have hlocks := B.notSynchronized
  subst hsz
  have hD := hD0.self (sz := s.heap.size)
  generalize hAe : va_A [(h0, .inr (9, fs0)), (fa, .inr (2, [.ref la, .ref cl, .ref wo, .ref on, .int dy, .int mu, .int pa])), (on, .inl (T 1, 7, .inr (.inl fo))), (wo, .inr (8, [.ref la, .ref cl, .ref p0, .ref p1, .ref p4, .int n])), (la, .inr (5, [.int (l9 0), .int (l9 1), .int (l9 2), .int (l9 3), .int (l9 4), .int (l9 5), .int (l9 6)])), (cl, .inr (1, [.int n0, .ref c1, .ref c2, .ref c3, .ref c4, .ref c5, .ref c6, .ref c7])), (c1, .inl (T 0, 24, .inl f1)), (c2, .inl (T 0, 24, .inl f2)), (c3, .inl (T 0, 24, .inl f3)), (c4, .inl (T 0, 24, .inl f4)), (c5, .inl (T 0, 24, .inl f5)), (p0, .inl (T 1, 676, .inr (.inl g0))), (p1, .inl (T 1, 676, .inr (.inl g1))), (p4, .inl (T 0, 672, .inl g4)), (c6, .inl (T 0, 24, .inl f6))] s.heap.size = A at hD hV ⊢
  have hA : ∀ q : Nat, s.heap.size ≤ q → A q := fun q h => by rw [← hAe]; exact Or.inr h
  have hS : va_S A s.heap s.heap [] := va_S.rf
  have hP : va_P D vwCl [(h0, .inr (9, fs0)), (fa, .inr (2, [.ref la, .ref cl, .ref wo, .ref on, .int dy, .int mu, .int pa])), (on, .inl (T 1, 7, .inr (.inl fo))), (wo, .inr (8, [.ref la, .ref cl, .ref p0, .ref p1, .ref p4, .int n])), (la, .inr (5, [.int (l9 0), .int (l9 1), .int (l9 2), .int (l9 3), .int (l9 4), .int (l9 5), .int (l9 6)])), (cl, .inr (1, [.int n0, .ref c1, .ref c2, .ref c3, .ref c4, .ref c5, .ref c6, .ref c7])), (c1, .inl (T 0, 24, .inl f1)), (c2, .inl (T 0, 24, .inl f2)), (c3, .inl (T 0, 24, .inl f3)), (c4, .inl (T 0, 24, .inl f4)), (c5, .inl (T 0, 24, .inl f5)), (p0, .inl (T 1, 676, .inr (.inl g0))), (p1, .inl (T 1, 676, .inr (.inl g1))), (p4, .inl (T 0, 672, .inl g4)), (c6, .inl (T 0, 24, .inl f6))] s.heap := hP
  have hl := lv_entry ([.ref h0, .int x1, .int x2, .int x3]) (n := 4) (Nat.le_of_ble_eq_true rfl)
  rw [lg_entry_eq]
  generalize (lg_sl ([.ref h0, .int x1, .int x2, .int x3]) ++ List.replicate (4 - (lg_sl ([.ref h0, .int x1, .int x2, .int x3])).length) Slot.unset).toArray = ls at hl ⊢
  have hl : lv_has ls 4 [(0, .ref h0), (1, .int x1), (2, .int x2), (3, .int x3)] := hl
  clear hD0
  have hst : stW (VALW l9 f1 f2 f3 f4 f5) n0 n (fun _ => True) g0 g1 g4 g0 g1 g4 := stW_rf hmm
  refine lv_aload_n hx hb dX12_dueDays_0 rfl (lv_at hl 0 rfl) ?_
  refine lv_iload_n hx hb dX12_dueDays_1 rfl (lv_at hl 1 rfl) ?_
  refine lv_iload_n hx hb dX12_dueDays_2 rfl (lv_at hl 2 rfl) ?_
  refine lv_iload_n hx hb dX12_dueDays_3 rfl (lv_at hl 3 rfl) ?_
  refine vp_callSi (W.runV (As := [.int x1, .int x2, .int x3]) (rest := []) ⟨hx, hb, hml, hown, hts⟩ (c_X12_isHad l D T h0 fs0 cl [.int n0, .ref c1, .ref c2, .ref c3, .ref c4, .ref c5, .ref c6, .ref c7] x1 x2 x3 n0 e0_4 rfl (by omega)) (cwV 3 hts gX12_dueDays_X12_isHad rfl rfl rfl hv_X12_isHad ⟨Nat.le_of_ble_eq_true rfl, Nat.le_of_ble_eq_true rfl⟩) (pR_V (q := (RX12, TX12, 11)) (ci := 9) (q0 := 0) hP hE rfl rfl [0, 5] rfl) rfl rfl hl.1 rfl (lv_room (Nat.le_of_ble_eq_true rfl)) dX12_dueDays_4 ⟨Nat.le_of_ble_eq_true rfl, Nat.le_of_ble_eq_true rfl⟩) (fun r_1 hr_1 => ?_)
  rcases bool_post hr_1 with ⟨c_2, rfl⟩ | ⟨c_2, rfl⟩
  · refine lv_if_ne (tgt := 13) hx hb dX12_dueDays_7 (by decide +kernel) (fun _ => ?_) (fun c9 => absurd c9 (by decide +kernel))
    refine lv_aload_n hx hb dX12_dueDays_13 rfl (lv_at hl 0 rfl) ?_
    refine va_get (D := D) (ci := 9) (v := .ref fa) (C := RX12) (T := TX12) (N := 11) hx hb hts in_X12_dueDays_X12 hown hE.1 hP 0 rfl rfl 7 (by decide +kernel) (hts (.fieldLink RX12 52 "ClauseBook" "falling" "LClauseBook$Falling;") (List.mem_of_getElem? (i := 1) rfl)) (fun _ h9 => h9) e0_7 dX12_dueDays_14 ?_
    refine lv_iload_n hx hb dX12_dueDays_17 rfl (lv_at hl 1 rfl) ?_
    refine lv_iload_n hx hb dX12_dueDays_18 rfl (lv_at hl 2 rfl) ?_
    refine lv_iload_n hx hb dX12_dueDays_19 rfl (lv_at hl 3 rfl) ?_
    have hFc := va_free (wc := [(fa, .inr (2, [.ref la, .ref cl, .ref wo, .ref on, .int dy, .int mu, .int pa])), (on, .inl (T 1, 7, .inr (.inl fo))), (wo, .inr (8, [.ref la, .ref cl, .ref p0, .ref p1, .ref p4, .int n])), (la, .inr (5, [.int (l9 0), .int (l9 1), .int (l9 2), .int (l9 3), .int (l9 4), .int (l9 5), .int (l9 6)])), (cl, .inr (1, [.int n0, .ref c1, .ref c2, .ref c3, .ref c4, .ref c5, .ref c6, .ref c7])), (c1, .inl (T 0, 24, .inl f1)), (c2, .inl (T 0, 24, .inl f2)), (c3, .inl (T 0, 24, .inl f3)), (c4, .inl (T 0, 24, .inl f4)), (c5, .inl (T 0, 24, .inl f5)), (p0, .inl (T 1, 676, .inr (.inl g0))), (p1, .inl (T 1, 676, .inr (.inl g1))), (p4, .inl (T 0, 672, .inl g4)), (c6, .inl (T 0, 24, .inl f6))]) hD hS hA [1, 2, 3, 4, 5, 6, 7, 8, 9, 10, 11, 12, 13, 14] rfl
    refine va_callv (va_runV (As := [.int x1, .int x2, .int x3]) (rest := []) ⟨hx, hb, hml, hown, hts⟩ (c_X3_gather l D T ad sa av ta _ fa on dy mu pa fo wo la cl p0 p1 p4 n l9 n0 c1 c2 c3 c4 c5 c6 c7 f1 f2 f3 f4 f5 g0 g1 g4 f6 x1 x2 x3 (by omega) (by omega) (by omega) hok (by omega) hmm hlq) (cwV 3 hts gX12_dueDays_X3_gather rfl rfl rfl hv_X3_gather ⟨Nat.le_of_ble_eq_true rfl, Nat.le_of_ble_eq_true rfl⟩) (pWk_V (q := (RX3, TX3, 7)) (ci := 2) (q0 := 1) hP hE hD hV hS hFc rfl rfl [1, 2, 3, 4, 5, 6, 7, 8, 9, 10, 11, 12, 13, 14] (by decide +kernel) rfl rfl) rfl rfl hl.1 rfl (lv_room (Nat.le_of_ble_eq_true rfl)) dX12_dueDays_20 ⟨Nat.le_of_ble_eq_true rfl, Nat.le_of_ble_eq_true rfl⟩) hS (fun q _ h => hFc q h) hFc (fun u_4 t H1 locs ht hvm hr_3 hB hz1 hk1 hS => ?_)
    obtain ⟨f_5, n_6, n_7, f_8, f_9, f_10⟩ := u_4
    have hsfhr_3 : stW (VALW l9 f1 f2 f3 f4 f5) n0 n (fun _ => True) g0 g1 g4 f_8 f_9 f_10 := hr_3.2
    have hst : stW (VALW l9 f1 f2 f3 f4 f5) n0 n (fun _ => True) g0 g1 g4 f_8 f_9 f_10 := hst.tr hsfhr_3 (fun _ _ => trivial)
    have hmm : memW (VALW l9 f1 f2 f3 f4 f5) n0 n f_8 f_9 f_10 := hst.1
    have hgahr_3 : dusP l9 f1 f2 f3 f4 f5 f6 (VALW l9 f1 f2 f3 f4 f5) x3 x1 x2 ((f_5, n_6, n_7) : duS) := hr_3.1
    obtain ⟨hP1, hD1⟩ := hB
    rw [ht] at hP1
    obtain ⟨hP, hD⟩ := va_repl [(h0, .inr (9, fs0)), (fa, .inr (2, [.ref la, .ref cl, .ref wo, .ref on, .int n_6, .int n_7, .int x3])), (on, .inl (T 1, 7, .inr (.inl f_5))), (wo, .inr (8, [.ref la, .ref cl, .ref p0, .ref p1, .ref p4, .int n])), (la, .inr (5, [.int (l9 0), .int (l9 1), .int (l9 2), .int (l9 3), .int (l9 4), .int (l9 5), .int (l9 6)])), (cl, .inr (1, [.int n0, .ref c1, .ref c2, .ref c3, .ref c4, .ref c5, .ref c6, .ref c7])), (c1, .inl (T 0, 24, .inl f1)), (c2, .inl (T 0, 24, .inl f2)), (c3, .inl (T 0, 24, .inl f3)), (c4, .inl (T 0, 24, .inl f4)), (c5, .inl (T 0, 24, .inl f5)), (p0, .inl (T 1, 676, .inr (.inl f_8))), (p1, .inl (T 1, 676, .inr (.inl f_9))), (p4, .inl (T 0, 672, .inl f_10)), (c6, .inl (T 0, 24, .inl f6))] hP hD [1, 2, 3, 4, 5, 6, 7, 8, 9, 10, 11, 12, 13, 14] [1, 2, 3, 4, 5, 6, 7, 8, 9, 10, 11, 12, 13, 14] rfl (by decide +kernel) rfl rfl rfl hk1 hP1
    clear hP1 hD1 hFc
    generalize H1 = H at hP hS ⊢
    refine lv_aload_n hx hb dX12_dueDays_23 rfl (lv_at hl 0 rfl) ?_
    refine va_get (D := D) (ci := 9) (v := .ref fa) (C := RX12) (T := TX12) (N := 11) hx hb hts in_X12_dueDays_X12 hown hE.1 hP 0 rfl rfl 7 (by decide +kernel) (hts (.fieldLink RX12 52 "ClauseBook" "falling" "LClauseBook$Falling;") (List.mem_of_getElem? (i := 1) rfl)) (fun _ h9 => h9) e0_7 dX12_dueDays_24 ?_
    refine va_get (D := D) (ci := 2) (v := .int n_7) (C := RX3) (T := TX3) (N := 7) hx hb hts in_X12_dueDays_X3 hown hE.1 hP 1 rfl rfl 5 (by decide +kernel) (hts (.fieldLink RX12 256 "ClauseBook$Falling" "much" "Z") (List.mem_of_getElem? (i := 2) rfl)) (fun _ h9 => h9) rfl dX12_dueDays_27 ?_
    refine lv_if_eq (tgt := 38) hx hb dX12_dueDays_30 (by decide +kernel) (fun c_11 => ?_) (fun c_11 => ?_)
    · rw [fa_eq] at c_11
      try rw [ti_0] at c_11
      refine lv_aload_n hx hb dX12_dueDays_38 rfl (lv_at hl 0 rfl) ?_
      refine va_get (D := D) (ci := 9) (v := .ref fa) (C := RX12) (T := TX12) (N := 11) hx hb hts in_X12_dueDays_X12 hown hE.1 hP 0 rfl rfl 7 (by decide +kernel) (hts (.fieldLink RX12 52 "ClauseBook" "falling" "LClauseBook$Falling;") (List.mem_of_getElem? (i := 1) rfl)) (fun _ h9 => h9) e0_7 dX12_dueDays_39 ?_
      refine va_get (D := D) (ci := 2) (v := .int n_6) (C := RX3) (T := TX3) (N := 7) hx hb hts in_X12_dueDays_X3 hown hE.1 hP 1 rfl rfl 4 (by decide +kernel) (hts (.fieldLink RX12 262 "ClauseBook$Falling" "days" "I") (List.mem_of_getElem? (i := 3) rfl)) (fun _ h9 => h9) rfl dX12_dueDays_42 ?_
      exact W.iret hx hb hr (fun t ht hW => ⟨⟨_, (f_5, n_6, n_7, f_8, f_9, f_10, x3), rfl, ⟨(Or.inr ⟨⟨(by omega), (by omega), (by omega)⟩, ((f_5, n_6, n_7) : duS), hgahr_3, Or.inr ⟨(show (n_7 : Int32).toInt = 0 from by omega), (by first | rfl | assumption)⟩⟩), hst⟩, by rw [ht]; exact hP.sub [0, 1, 2, 3, 4, 5, 6, 7, 8, 9, 10, 11, 12, 13, 14] rfl, hD.sub [0, 1, 2, 3, 4, 5, 6, 7, 8, 9, 10, 11, 12, 13, 14] (by decide +kernel) rfl⟩, hS.F ht⟩) hS.2.2 dX12_dueDays_45
    · rw [fa_eq] at c_11
      try rw [ti_0] at c_11
      refine lv_bipush (v := (-5)) hx hb dX12_dueDays_33 (by decide +kernel) ?_
      refine lv_goto (tgt := 45) hx hb dX12_dueDays_35 (by decide +kernel) ?_
      exact W.iret hx hb hr (fun t ht hW => ⟨⟨_, (f_5, n_6, n_7, f_8, f_9, f_10, x3), rfl, ⟨(Or.inr ⟨⟨(by omega), (by omega), (by omega)⟩, ((f_5, n_6, n_7) : duS), hgahr_3, Or.inl ⟨(show ¬ (n_7 : Int32).toInt = 0 from by omega), (by decide +kernel)⟩⟩), hst⟩, by rw [ht]; exact hP.sub [0, 1, 2, 3, 4, 5, 6, 7, 8, 9, 10, 11, 12, 13, 14] rfl, hD.sub [0, 1, 2, 3, 4, 5, 6, 7, 8, 9, 10, 11, 12, 13, 14] (by decide +kernel) rfl⟩, hS.F ht⟩) hS.2.2 dX12_dueDays_45
  · refine lv_if_ne (tgt := 13) hx hb dX12_dueDays_7 (by decide +kernel) (fun c9 => absurd c9 (by decide +kernel)) (fun _ => ?_)
    refine lv_bipush (v := (-2)) hx hb dX12_dueDays_10 (by decide +kernel) ?_
    exact W.iret hx hb hr (fun t ht hW => ⟨⟨_, (fo, dy, mu, g0, g1, g4, pa), rfl, ⟨(Or.inl ⟨(fun h9 => by obtain ⟨h1, h2, h3⟩ := h9; omega), (by decide +kernel)⟩), hst⟩, by rw [ht]; exact hP.sub [0, 1, 2, 3, 4, 5, 6, 7, 8, 9, 10, 11, 12, 13, 14] rfl, hD.sub [0, 1, 2, 3, 4, 5, 6, 7, 8, 9, 10, 11, 12, 13, 14] (by decide +kernel) rfl⟩, hS.F ht⟩) hS.2.2 dX12_dueDays_12
theorem dX12_failed_0 : decode cX12_failed 0 = .ok (.aload_n 0, 1) := by decide +kernel
theorem dX12_failed_1 : decode cX12_failed 1 = .ok (.iload_n 1, 1) := by decide +kernel
theorem dX12_failed_10 : decode cX12_failed 10 = .ok (.iload 4, 2) := by decide +kernel
theorem dX12_failed_102 : decode cX12_failed 102 = .ok (.ldiv, 1) := by decide +kernel
theorem dX12_failed_103 : decode cX12_failed 103 = .ok (.lstore 10, 2) := by decide +kernel
theorem dX12_failed_105 : decode cX12_failed 105 = .ok (.lload 6, 2) := by decide +kernel
theorem dX12_failed_107 : decode cX12_failed 107 = .ok (.lload 10, 2) := by decide +kernel
theorem dX12_failed_109 : decode cX12_failed 109 = .ok (.invokestatic 274, 3) := by decide +kernel
theorem dX12_failed_112 : decode cX12_failed 112 = .ok (.ifCond .eq 11, 3) := by decide +kernel
theorem dX12_failed_115 : decode cX12_failed 115 = .ok (.lload 6, 2) := by decide +kernel
theorem dX12_failed_117 : decode cX12_failed 117 = .ok (.lload 10, 2) := by decide +kernel
theorem dX12_failed_119 : decode cX12_failed 119 = .ok (.ladd, 1) := by decide +kernel
theorem dX12_failed_12 : decode cX12_failed 12 = .ok (.invokestatic 120, 3) := by decide +kernel
theorem dX12_failed_120 : decode cX12_failed 120 = .ok (.goto 6, 3) := by decide +kernel
theorem dX12_failed_123 : decode cX12_failed 123 = .ok (.ldc2_w 200, 3) := by decide +kernel
theorem dX12_failed_126 : decode cX12_failed 126 = .ok (.lreturn, 1) := by decide +kernel
theorem dX12_failed_15 : decode cX12_failed 15 = .ok (.ifCond .eq 14, 3) := by decide +kernel
theorem dX12_failed_18 : decode cX12_failed 18 = .ok (.iload 5, 2) := by decide +kernel
theorem dX12_failed_2 : decode cX12_failed 2 = .ok (.iload_n 2, 1) := by decide +kernel
theorem dX12_failed_20 : decode cX12_failed 20 = .ok (.iconst 0, 1) := by decide +kernel
theorem dX12_failed_21 : decode cX12_failed 21 = .ok (.bipush 9, 2) := by decide +kernel
theorem dX12_failed_23 : decode cX12_failed 23 = .ok (.invokestatic 77, 3) := by decide +kernel
theorem dX12_failed_26 : decode cX12_failed 26 = .ok (.ifCond .ne 7, 3) := by decide +kernel
theorem dX12_failed_29 : decode cX12_failed 29 = .ok (.ldc2_w 183, 3) := by decide +kernel
theorem dX12_failed_3 : decode cX12_failed 3 = .ok (.iload_n 3, 1) := by decide +kernel
theorem dX12_failed_32 : decode cX12_failed 32 = .ok (.lreturn, 1) := by decide +kernel
theorem dX12_failed_33 : decode cX12_failed 33 = .ok (.aload_n 0, 1) := by decide +kernel
theorem dX12_failed_34 : decode cX12_failed 34 = .ok (.getfield 52, 3) := by decide +kernel
theorem dX12_failed_37 : decode cX12_failed 37 = .ok (.iload_n 1, 1) := by decide +kernel
theorem dX12_failed_38 : decode cX12_failed 38 = .ok (.iload_n 2, 1) := by decide +kernel
theorem dX12_failed_39 : decode cX12_failed 39 = .ok (.iload_n 3, 1) := by decide +kernel
theorem dX12_failed_4 : decode cX12_failed 4 = .ok (.invokevirtual 250, 3) := by decide +kernel
theorem dX12_failed_40 : decode cX12_failed 40 = .ok (.invokevirtual 253, 3) := by decide +kernel
theorem dX12_failed_43 : decode cX12_failed 43 = .ok (.aload_n 0, 1) := by decide +kernel
theorem dX12_failed_44 : decode cX12_failed 44 = .ok (.getfield 52, 3) := by decide +kernel
theorem dX12_failed_47 : decode cX12_failed 47 = .ok (.iconst 0, 1) := by decide +kernel
theorem dX12_failed_48 : decode cX12_failed 48 = .ok (.iload 4, 2) := by decide +kernel
theorem dX12_failed_50 : decode cX12_failed 50 = .ok (.invokevirtual 265, 3) := by decide +kernel
theorem dX12_failed_53 : decode cX12_failed 53 = .ok (.lstore 6, 2) := by decide +kernel
theorem dX12_failed_55 : decode cX12_failed 55 = .ok (.aload_n 0, 1) := by decide +kernel
theorem dX12_failed_56 : decode cX12_failed 56 = .ok (.getfield 52, 3) := by decide +kernel
theorem dX12_failed_59 : decode cX12_failed 59 = .ok (.iload 4, 2) := by decide +kernel
theorem dX12_failed_61 : decode cX12_failed 61 = .ok (.bipush 7, 2) := by decide +kernel
theorem dX12_failed_63 : decode cX12_failed 63 = .ok (.invokevirtual 265, 3) := by decide +kernel
theorem dX12_failed_66 : decode cX12_failed 66 = .ok (.lstore 8, 2) := by decide +kernel
theorem dX12_failed_68 : decode cX12_failed 68 = .ok (.aload_n 0, 1) := by decide +kernel
theorem dX12_failed_69 : decode cX12_failed 69 = .ok (.getfield 52, 3) := by decide +kernel
theorem dX12_failed_7 : decode cX12_failed 7 = .ok (.ifCond .eq 22, 3) := by decide +kernel
theorem dX12_failed_72 : decode cX12_failed 72 = .ok (.getfield 256, 3) := by decide +kernel
theorem dX12_failed_75 : decode cX12_failed 75 = .ok (.ifCond .ne 14, 3) := by decide +kernel
theorem dX12_failed_78 : decode cX12_failed 78 = .ok (.lload 8, 2) := by decide +kernel
theorem dX12_failed_80 : decode cX12_failed 80 = .ok (.iload 5, 2) := by decide +kernel
theorem dX12_failed_82 : decode cX12_failed 82 = .ok (.i2l, 1) := by decide +kernel
theorem dX12_failed_83 : decode cX12_failed 83 = .ok (.invokestatic 268, 3) := by decide +kernel
theorem dX12_failed_86 : decode cX12_failed 86 = .ok (.ifCond .ne 7, 3) := by decide +kernel
theorem dX12_failed_89 : decode cX12_failed 89 = .ok (.ldc2_w 200, 3) := by decide +kernel
theorem dX12_failed_92 : decode cX12_failed 92 = .ok (.lreturn, 1) := by decide +kernel
theorem dX12_failed_93 : decode cX12_failed 93 = .ok (.lload 8, 2) := by decide +kernel
theorem dX12_failed_95 : decode cX12_failed 95 = .ok (.iload 5, 2) := by decide +kernel
theorem dX12_failed_97 : decode cX12_failed 97 = .ok (.i2l, 1) := by decide +kernel
theorem dX12_failed_98 : decode cX12_failed 98 = .ok (.lmul, 1) := by decide +kernel
theorem dX12_failed_99 : decode cX12_failed 99 = .ok (.ldc2_w 272, 3) := by decide +kernel
set_option maxRecDepth 20000 in
theorem ggX12_failed_X11_productFits : GoodIn wsX12_failed wsX11_productFits := goodIn_r _ [126, 107, 127] rfl (by decide +kernel)
set_option maxRecDepth 20000 in
theorem ggX12_failed_X11_sumFits : GoodIn wsX12_failed wsX11_sumFits := goodIn_r _ [69] rfl (by decide +kernel)
set_option maxRecDepth 20000 in
theorem ggX12_failed_X12_isDay : GoodIn wsX12_failed wsX12_isDay := goodIn_r _ [22, 23, 18, 9, 19] rfl (by decide +kernel)
set_option maxRecDepth 20000 in
theorem ggX12_failed_X12_isHad : GoodIn wsX12_failed wsX12_isHad := goodIn_r _ [10, 11, 12, 13, 14, 15, 16, 17, 18, 9, 19, 20, 21, 22, 23, 24, 25, 26, 190, 191, 192, 193, 194, 195, 196, 197, 198, 199, 200, 208, 209, 210, 211, 212, 213, 214, 215] rfl (by decide +kernel)
set_option maxRecDepth 20000 in
theorem ggX12_failed_X12_within : GoodIn wsX12_failed wsX12_within := goodIn_r _ [19] rfl (by decide +kernel)
set_option maxRecDepth 40000 in
theorem ggX12_failed_X3_gather_0 : GoodIn wsX12_failed [.code yX3_gather cX3_gather 5 none] := goodIn_r _ [31] rfl (by decide +kernel)
set_option maxRecDepth 40000 in
theorem ggX12_failed_X3_gather_1 : GoodIn wsX12_failed wsX3_gather_r1 := goodIn_r _ [32, 33, 34, 35, 36, 37, 38, 39, 40, 30, 41, 42, 43, 44, 45, 46, 47, 48, 49, 50, 51, 52, 15, 53] rfl (by decide +kernel)
set_option maxRecDepth 40000 in
theorem ggX12_failed_X3_gather_2 : GoodIn wsX12_failed wsX3_gather_r2 := goodIn_r _ [54, 55, 56, 57, 58, 59, 60, 61, 62, 63, 64, 65, 66, 67, 68, 69, 70, 71, 72, 73, 74, 75, 76, 77] rfl (by decide +kernel)
set_option maxRecDepth 40000 in
theorem ggX12_failed_X3_gather_3 : GoodIn wsX12_failed wsX3_gather_r3 := goodIn_r _ [78, 79, 80, 81, 82, 83, 84, 85, 86, 87, 88, 89, 90, 91, 92, 93, 94, 95, 96, 97, 98, 99, 100, 101] rfl (by decide +kernel)
set_option maxRecDepth 40000 in
theorem ggX12_failed_X3_gather_4 : GoodIn wsX12_failed wsX3_gather_r4 := goodIn_r _ [102, 103, 104, 105, 106, 107, 108, 109, 110, 111, 112, 113, 114, 115, 116, 117, 118, 119, 120, 121, 122, 123, 124, 125] rfl (by decide +kernel)
set_option maxRecDepth 40000 in
theorem ggX12_failed_X3_gather_5 : GoodIn wsX12_failed wsX3_gather_r5 := goodIn_r _ [126, 127, 128, 129, 130, 131, 132, 133, 134, 135, 136, 137, 138, 139, 140, 141, 142, 143, 144, 145, 146, 147, 148, 149] rfl (by decide +kernel)
set_option maxRecDepth 40000 in
theorem ggX12_failed_X3_gather_6 : GoodIn wsX12_failed wsX3_gather_r6 := goodIn_r _ [150, 151, 152, 153, 154, 155, 156, 157, 158, 159, 160, 161, 162, 163, 164, 165, 166, 167, 168, 169, 170, 171, 172, 173] rfl (by decide +kernel)
set_option maxRecDepth 40000 in
theorem ggX12_failed_X3_gather_7 : GoodIn wsX12_failed wsX3_gather_r7 := goodIn_r _ [174, 175, 176, 177, 178, 179, 180, 181, 182, 183] rfl (by decide +kernel)
set_option maxRecDepth 40000 in
theorem ggX12_failed_X3_gather_8 : GoodIn wsX12_failed wsX30 := goodIn_r _ [201, 202, 203, 204, 205, 206, 207] rfl (by decide +kernel)
set_option maxRecDepth 40000 in
theorem ggX12_failed_X3_gather_9 : GoodIn wsX12_failed wsX20 := goodIn_r _ [208, 209, 210, 211, 212, 213, 214, 215] rfl (by decide +kernel)
set_option maxRecDepth 40000 in
theorem ggX12_failed_X3_gather_10 : GoodIn wsX12_failed wsX80 := goodIn_r _ [216, 217, 218, 219, 220, 221, 222] rfl (by decide +kernel)
set_option maxRecDepth 40000 in
theorem ggX12_failed_X3_gather_11 : GoodIn wsX12_failed wsX110 := goodIn_r _ [223, 224, 225, 226, 227, 228] rfl (by decide +kernel)
set_option maxRecDepth 40000 in
theorem ggX12_failed_X3_gather : GoodIn wsX12_failed wsX3_gather := (goodIn_app ggX12_failed_X3_gather_0 (goodIn_app (goodIn_app (goodIn_app (goodIn_app (goodIn_app ggX12_failed_X3_gather_1 (goodIn_app ggX12_failed_X3_gather_2 (goodIn_app ggX12_failed_X3_gather_3 (goodIn_app ggX12_failed_X3_gather_4 (goodIn_app ggX12_failed_X3_gather_5 (goodIn_app ggX12_failed_X3_gather_6 ggX12_failed_X3_gather_7)))))) ggX12_failed_X3_gather_8) ggX12_failed_X3_gather_9) ggX12_failed_X3_gather_10) ggX12_failed_X3_gather_11))
set_option maxRecDepth 20000 in
theorem ggX12_failed_X3_total : GoodIn wsX12_failed wsX3_total := goodIn_r _ [187, 32, 37, 66, 67, 68, 69, 201, 202, 203, 204, 205, 206, 207] rfl (by decide +kernel)
set_option maxRecDepth 20000 in
theorem gX12_failed_X11_productFits : GoodIn wsX12_failed (va_wsS RX12 268 yX11_productFits wsX11_productFits) := goodIn_app (goodIn_of _ (by decide +kernel)) ggX12_failed_X11_productFits
set_option maxRecDepth 20000 in
theorem gX12_failed_X11_sumFits : GoodIn wsX12_failed (va_wsS RX12 274 yX11_sumFits wsX11_sumFits) := goodIn_app (goodIn_of _ (by decide +kernel)) ggX12_failed_X11_sumFits
set_option maxRecDepth 20000 in
theorem gX12_failed_X12_isDay : GoodIn wsX12_failed (va_wsS RX12 120 yX12_isDay wsX12_isDay) := goodIn_app (goodIn_of _ (by decide +kernel)) ggX12_failed_X12_isDay
set_option maxRecDepth 20000 in
theorem gX12_failed_X12_isHad : GoodIn wsX12_failed (wsV RX12 250 RX12 yX12_isHad wsX12_isHad) := goodIn_app (goodIn_r _ [6, 7, 8, 9] rfl (by decide +kernel)) ggX12_failed_X12_isHad
set_option maxRecDepth 20000 in
theorem gX12_failed_X12_within : GoodIn wsX12_failed (va_wsS RX12 77 yX12_within wsX12_within) := goodIn_app (goodIn_of _ (by decide +kernel)) ggX12_failed_X12_within
set_option maxRecDepth 20000 in
theorem gX12_failed_X3_gather : GoodIn wsX12_failed (wsV RX12 253 RX3 yX3_gather wsX3_gather) := goodIn_app (goodIn_r _ [27, 28, 29, 30] rfl (by decide +kernel)) ggX12_failed_X3_gather
set_option maxRecDepth 20000 in
theorem gX12_failed_X3_total : GoodIn wsX12_failed (wsV RX12 265 RX3 yX3_total wsX3_total) := goodIn_app (goodIn_r _ [184, 185, 186, 30] rfl (by decide +kernel)) ggX12_failed_X3_total
theorem hv_X3_total : yX3_total.cls = RX3 ∧ yX3_total.cls ≠ "java/lang/invoke/MethodHandle" ∧ yX3_total.cls ≠ "java/lang/invoke/VarHandle" ∧ (parseMethodDescriptor yX3_total.desc).map (fun d => d.parameters.length) = some 2 := by decide +kernel
set_option maxRecDepth 20000 in
theorem in_X12_failed_X12 : ∀ w ∈ wsX120, w ∈ wsX12_failed := sub_r [190, 191, 192, 193, 194, 195, 196, 197, 198, 199, 200] rfl
set_option maxRecDepth 20000 in
theorem in_X12_failed_X3 : ∀ w ∈ wsX30, w ∈ wsX12_failed := sub_r [201, 202, 203, 204, 205, 206, 207] rfl
set_option maxHeartbeats 4000000 in
set_option maxRecDepth 100000 in
theorem c_X12_failed (l : Launch) (D : va_G) (T : Nat → ClassId) (ad sa av : Nat → Nat) (ta : Nat) (sz : Nat) (h0 : Nat) (fa : Nat) (fs0 : List Value) (on : Nat) (dy : Int32) (mu : Int32) (pa : Int32) (fo : Nat → Int64) (wo : Nat) (la : Nat) (cl : Nat) (p0 : Nat) (p1 : Nat) (p4 : Nat) (n : Int32) (l9 : Nat → Int32) (n0 : Int32) (c1 : Nat) (c2 : Nat) (c3 : Nat) (c4 : Nat) (c5 : Nat) (c6 : Nat) (c7 : Nat) (f1 : Nat → Int32) (f2 : Nat → Int32) (f3 : Nat → Int32) (f4 : Nat → Int32) (f5 : Nat → Int32) (g0 : Nat → Int64) (g1 : Nat → Int64) (g4 : Nat → Int32) (f6 : Nat → Int32) (x1 : Int32) (x2 : Int32) (x3 : Int32) (x4 : Int32) (x5 : Int32) (e0_4 : fs0[4]? = some (.ref cl)) (e0_7 : fs0[7]? = some (.ref fa)) (hn0 : 0 ≤ n0.toInt ∧ n0.toInt ≤ 24) (hok : okC f1 f3 f4 f5) (hmm : memW (VALW l9 f1 f2 f3 f4 f5) n0 n g0 g1 g4) (hlq : (1 ≤ (l9 4).toInt ∧ (l9 4).toInt ≤ 9) ∧ 1 ≤ (l9 6).toInt ∧ (l9 6).toInt ≤ 9) : Met l yX12_failed wsX12_failed ({ frames := 125, cells := 0, slots := 0, locals := 3987 }) (pWk [.ref h0, .int x1, .int x2, .int x3, .int x4, .int x5] D T [(h0, .inr (9, fs0)), (fa, .inr (2, [.ref la, .ref cl, .ref wo, .ref on, .int dy, .int mu, .int pa])), (on, .inl (T 1, 7, .inr (.inl fo))), (wo, .inr (8, [.ref la, .ref cl, .ref p0, .ref p1, .ref p4, .int n])), (la, .inr (5, [.int (l9 0), .int (l9 1), .int (l9 2), .int (l9 3), .int (l9 4), .int (l9 5), .int (l9 6)])), (cl, .inr (1, [.int n0, .ref c1, .ref c2, .ref c3, .ref c4, .ref c5, .ref c6, .ref c7])), (c1, .inl (T 0, 24, .inl f1)), (c2, .inl (T 0, 24, .inl f2)), (c3, .inl (T 0, 24, .inl f3)), (c4, .inl (T 0, 24, .inl f4)), (c5, .inl (T 0, 24, .inl f5)), (p0, .inl (T 1, 676, .inr (.inl g0))), (p1, .inl (T 1, 676, .inr (.inl g1))), (p4, .inl (T 0, 672, .inl g4)), (c6, .inl (T 0, 24, .inl f6))] sz ad sa av ta) (va_Ql (fun (r : Int64) (u : (Nat → Int64) × Int32 × Int32 × (Nat → Int64) × (Nat → Int64) × (Nat → Int32) × Int32) => faQ l9 f1 f2 f3 f4 f5 f6 (VALW l9 f1 f2 f3 f4 f5) n0 x1 x2 x3 x4 x5 r ∧ stW (VALW l9 f1 f2 f3 f4 f5) n0 n (fun _ => True) g0 g1 g4 u.2.2.2.1 u.2.2.2.2.1 u.2.2.2.2.2.1) (bW D (va_A [(h0, .inr (9, fs0)), (fa, .inr (2, [.ref la, .ref cl, .ref wo, .ref on, .int dy, .int mu, .int pa])), (on, .inl (T 1, 7, .inr (.inl fo))), (wo, .inr (8, [.ref la, .ref cl, .ref p0, .ref p1, .ref p4, .int n])), (la, .inr (5, [.int (l9 0), .int (l9 1), .int (l9 2), .int (l9 3), .int (l9 4), .int (l9 5), .int (l9 6)])), (cl, .inr (1, [.int n0, .ref c1, .ref c2, .ref c3, .ref c4, .ref c5, .ref c6, .ref c7])), (c1, .inl (T 0, 24, .inl f1)), (c2, .inl (T 0, 24, .inl f2)), (c3, .inl (T 0, 24, .inl f3)), (c4, .inl (T 0, 24, .inl f4)), (c5, .inl (T 0, 24, .inl f5)), (p0, .inl (T 1, 676, .inr (.inl g0))), (p1, .inl (T 1, 676, .inr (.inl g1))), (p4, .inl (T 0, 672, .inl g4)), (c6, .inl (T 0, 24, .inl f6))] sz) (fun (u : (Nat → Int64) × Int32 × Int32 × (Nat → Int64) × (Nat → Int64) × (Nat → Int32) × Int32) => [(h0, .inr (9, fs0)), (fa, .inr (2, [.ref la, .ref cl, .ref wo, .ref on, .int u.2.1, .int u.2.2.1, .int u.2.2.2.2.2.2])), (on, .inl (T 1, 7, .inr (.inl u.1))), (wo, .inr (8, [.ref la, .ref cl, .ref p0, .ref p1, .ref p4, .int n])), (la, .inr (5, [.int (l9 0), .int (l9 1), .int (l9 2), .int (l9 3), .int (l9 4), .int (l9 5), .int (l9 6)])), (cl, .inr (1, [.int n0, .ref c1, .ref c2, .ref c3, .ref c4, .ref c5, .ref c6, .ref c7])), (c1, .inl (T 0, 24, .inl f1)), (c2, .inl (T 0, 24, .inl f2)), (c3, .inl (T 0, 24, .inl f3)), (c4, .inl (T 0, 24, .inl f4)), (c5, .inl (T 0, 24, .inl f5)), (p0, .inl (T 1, 676, .inr (.inl u.2.2.2.1))), (p1, .inl (T 1, 676, .inr (.inl u.2.2.2.2.1))), (p4, .inl (T 0, 672, .inl u.2.2.2.2.2.1)), (c6, .inl (T 0, 24, .inl f6))])) (va_A [(h0, .inr (9, fs0)), (fa, .inr (2, [.ref la, .ref cl, .ref wo, .ref on, .int dy, .int mu, .int pa])), (on, .inl (T 1, 7, .inr (.inl fo))), (wo, .inr (8, [.ref la, .ref cl, .ref p0, .ref p1, .ref p4, .int n])), (la, .inr (5, [.int (l9 0), .int (l9 1), .int (l9 2), .int (l9 3), .int (l9 4), .int (l9 5), .int (l9 6)])), (cl, .inr (1, [.int n0, .ref c1, .ref c2, .ref c3, .ref c4, .ref c5, .ref c6, .ref c7])), (c1, .inl (T 0, 24, .inl f1)), (c2, .inl (T 0, 24, .inl f2)), (c3, .inl (T 0, 24, .inl f3)), (c4, .inl (T 0, 24, .inl f4)), (c5, .inl (T 0, 24, .inl f5)), (p0, .inl (T 1, 676, .inr (.inl g0))), (p1, .inl (T 1, 676, .inr (.inl g1))), (p4, .inl (T 0, 672, .inl g4)), (c6, .inl (T 0, 24, .inl f6))] sz)) 0 0 (va_A [(h0, .inr (9, fs0)), (fa, .inr (2, [.ref la, .ref cl, .ref wo, .ref on, .int dy, .int mu, .int pa])), (on, .inl (T 1, 7, .inr (.inl fo))), (wo, .inr (8, [.ref la, .ref cl, .ref p0, .ref p1, .ref p4, .int n])), (la, .inr (5, [.int (l9 0), .int (l9 1), .int (l9 2), .int (l9 3), .int (l9 4), .int (l9 5), .int (l9 6)])), (cl, .inr (1, [.int n0, .ref c1, .ref c2, .ref c3, .ref c4, .ref c5, .ref c6, .ref c7])), (c1, .inl (T 0, 24, .inl f1)), (c2, .inl (T 0, 24, .inl f2)), (c3, .inl (T 0, 24, .inl f3)), (c4, .inl (T 0, 24, .inl f4)), (c5, .inl (T 0, 24, .inl f5)), (p0, .inl (T 1, 676, .inr (.inl g0))), (p1, .inl (T 1, 676, .inr (.inl g1))), (p4, .inl (T 0, 672, .inl g4)), (c6, .inl (T 0, 24, .inl f6))] sz) := by
  refine Met.ofW (cc := cX12_failed) (maxL := 12) (ret := (some .long)) (by decide +kernel) rfl ?_
  intro p e s m args below meth c s₁ B hml hv
  obtain ⟨rfl, hsz, hP, hE, hD0, hV⟩ := hv
  have hx := B.exec
  have hb := B.bytes
  have hr := B.returns
  have hts := atoms_spec (ws := wsX12_failed) B.pre
  have hown : s.vm.findClass RX12 = some m.cls := findClass_of_methodNamed B.named
  have hlocks := B.notSynchronized
  subst hsz
  have hD := hD0.self (sz := s.heap.size)
  generalize hAe : va_A [(h0, .inr (9, fs0)), (fa, .inr (2, [.ref la, .ref cl, .ref wo, .ref on, .int dy, .int mu, .int pa])), (on, .inl (T 1, 7, .inr (.inl fo))), (wo, .inr (8, [.ref la, .ref cl, .ref p0, .ref p1, .ref p4, .int n])), (la, .inr (5, [.int (l9 0), .int (l9 1), .int (l9 2), .int (l9 3), .int (l9 4), .int (l9 5), .int (l9 6)])), (cl, .inr (1, [.int n0, .ref c1, .ref c2, .ref c3, .ref c4, .ref c5, .ref c6, .ref c7])), (c1, .inl (T 0, 24, .inl f1)), (c2, .inl (T 0, 24, .inl f2)), (c3, .inl (T 0, 24, .inl f3)), (c4, .inl (T 0, 24, .inl f4)), (c5, .inl (T 0, 24, .inl f5)), (p0, .inl (T 1, 676, .inr (.inl g0))), (p1, .inl (T 1, 676, .inr (.inl g1))), (p4, .inl (T 0, 672, .inl g4)), (c6, .inl (T 0, 24, .inl f6))] s.heap.size = A at hD hV ⊢
  have hA : ∀ q : Nat, s.heap.size ≤ q → A q := fun q h => by rw [← hAe]; exact Or.inr h
  have hS : va_S A s.heap s.heap [] := va_S.rf
  have hP : va_P D vwCl [(h0, .inr (9, fs0)), (fa, .inr (2, [.ref la, .ref cl, .ref wo, .ref on, .int dy, .int mu, .int pa])), (on, .inl (T 1, 7, .inr (.inl fo))), (wo, .inr (8, [.ref la, .ref cl, .ref p0, .ref p1, .ref p4, .int n])), (la, .inr (5, [.int (l9 0), .int (l9 1), .int (l9 2), .int (l9 3), .int (l9 4), .int (l9 5), .int (l9 6)])), (cl, .inr (1, [.int n0, .ref c1, .ref c2, .ref c3, .ref c4, .ref c5, .ref c6, .ref c7])), (c1, .inl (T 0, 24, .inl f1)), (c2, .inl (T 0, 24, .inl f2)), (c3, .inl (T 0, 24, .inl f3)), (c4, .inl (T 0, 24, .inl f4)), (c5, .inl (T 0, 24, .inl f5)), (p0, .inl (T 1, 676, .inr (.inl g0))), (p1, .inl (T 1, 676, .inr (.inl g1))), (p4, .inl (T 0, 672, .inl g4)), (c6, .inl (T 0, 24, .inl f6))] s.heap := hP
  have hl := lv_entry ([.ref h0, .int x1, .int x2, .int x3, .int x4, .int x5]) (n := 12) (Nat.le_of_ble_eq_true rfl)
  rw [lg_entry_eq]
  generalize (lg_sl ([.ref h0, .int x1, .int x2, .int x3, .int x4, .int x5]) ++ List.replicate (12 - (lg_sl ([.ref h0, .int x1, .int x2, .int x3, .int x4, .int x5])).length) Slot.unset).toArray = ls at hl ⊢
  have hl : lv_has ls 12 [(0, .ref h0), (1, .int x1), (2, .int x2), (3, .int x3), (4, .int x4), (5, .int x5)] := hl
  clear hD0
  have hst : stW (VALW l9 f1 f2 f3 f4 f5) n0 n (fun _ => True) g0 g1 g4 g0 g1 g4 := stW_rf hmm
  refine lv_aload_n hx hb dX12_failed_0 rfl (lv_at hl 0 rfl) ?_
  refine lv_iload_n hx hb dX12_failed_1 rfl (lv_at hl 1 rfl) ?_
  refine lv_iload_n hx hb dX12_failed_2 rfl (lv_at hl 2 rfl) ?_
  refine lv_iload_n hx hb dX12_failed_3 rfl (lv_at hl 3 rfl) ?_
  refine vp_callSi (W.runV (As := [.int x1, .int x2, .int x3]) (rest := []) ⟨hx, hb, hml, hown, hts⟩ (c_X12_isHad l D T h0 fs0 cl [.int n0, .ref c1, .ref c2, .ref c3, .ref c4, .ref c5, .ref c6, .ref c7] x1 x2 x3 n0 e0_4 rfl (by omega)) (cwV 3 hts gX12_failed_X12_isHad rfl rfl rfl hv_X12_isHad ⟨Nat.le_of_ble_eq_true rfl, Nat.le_of_ble_eq_true rfl⟩) (pR_V (q := (RX12, TX12, 11)) (ci := 9) (q0 := 0) hP hE rfl rfl [0, 5] rfl) rfl rfl hl.1 rfl (lv_room (Nat.le_of_ble_eq_true rfl)) dX12_failed_4 ⟨Nat.le_of_ble_eq_true rfl, Nat.le_of_ble_eq_true rfl⟩) (fun r_1 hr_1 => ?_)
  rcases bool_post hr_1 with ⟨c_2, rfl⟩ | ⟨c_2, rfl⟩
  · refine lv_if_eq (tgt := 29) hx hb dX12_failed_7 (by decide +kernel) (fun c9 => absurd c9 (by decide +kernel)) (fun _ => ?_)
    refine lv_iload hx hb dX12_failed_10 (lv_at hl 4 rfl) ?_
    refine vp_callSi (W.runS (As := [.int x4]) (rest := []) ⟨hx, hb, hml, hown, hts⟩ (c_X12_isDay l D T x4) (va_cwS 1 hts gX12_failed_X12_isDay rfl rfl rfl hs_X12_isDay ⟨Nat.le_of_ble_eq_true rfl, Nat.le_of_ble_eq_true rfl⟩) (pR_S hP hE [] rfl) rfl rfl hl.1 rfl (lv_room (Nat.le_of_ble_eq_true rfl)) dX12_failed_12 ⟨Nat.le_of_ble_eq_true rfl, Nat.le_of_ble_eq_true rfl⟩) (fun r_3 hr_3 => ?_)
    rcases bool_post hr_3 with ⟨c_4, rfl⟩ | ⟨c_4, rfl⟩
    · refine lv_if_eq (tgt := 29) hx hb dX12_failed_15 (by decide +kernel) (fun c9 => absurd c9 (by decide +kernel)) (fun _ => ?_)
      refine lv_iload hx hb dX12_failed_18 (lv_at hl 5 rfl) ?_
      refine lv_iconst (v := 0) hx hb dX12_failed_20 (by decide +kernel) ?_
      refine lv_bipush (v := 9) hx hb dX12_failed_21 (by decide +kernel) ?_
      refine vp_callSi (W.runS (As := [.int x5, .int 0, .int 9]) (rest := []) ⟨hx, hb, hml, hown, hts⟩ (c_X12_within l D T x5 0 9 0 9 (by decide +kernel) (by decide +kernel)) (va_cwS 3 hts gX12_failed_X12_within rfl rfl rfl hs_X12_within ⟨Nat.le_of_ble_eq_true rfl, Nat.le_of_ble_eq_true rfl⟩) (pR_S hP hE [] rfl) rfl rfl hl.1 rfl (lv_room (Nat.le_of_ble_eq_true rfl)) dX12_failed_23 ⟨Nat.le_of_ble_eq_true rfl, Nat.le_of_ble_eq_true rfl⟩) (fun r_5 hr_5 => ?_)
      rcases bool_post hr_5 with ⟨c_6, rfl⟩ | ⟨c_6, rfl⟩
      · refine lv_if_ne (tgt := 33) hx hb dX12_failed_26 (by decide +kernel) (fun _ => ?_) (fun c9 => absurd c9 (by decide +kernel))
        refine lv_aload_n hx hb dX12_failed_33 rfl (lv_at hl 0 rfl) ?_
        refine va_get (D := D) (ci := 9) (v := .ref fa) (C := RX12) (T := TX12) (N := 11) hx hb hts in_X12_failed_X12 hown hE.1 hP 0 rfl rfl 7 (by decide +kernel) (hts (.fieldLink RX12 52 "ClauseBook" "falling" "LClauseBook$Falling;") (List.mem_of_getElem? (i := 2) rfl)) (fun _ h9 => h9) e0_7 dX12_failed_34 ?_
        refine lv_iload_n hx hb dX12_failed_37 rfl (lv_at hl 1 rfl) ?_
        refine lv_iload_n hx hb dX12_failed_38 rfl (lv_at hl 2 rfl) ?_
        refine lv_iload_n hx hb dX12_failed_39 rfl (lv_at hl 3 rfl) ?_
        have hFc := va_free (wc := [(fa, .inr (2, [.ref la, .ref cl, .ref wo, .ref on, .int dy, .int mu, .int pa])), (on, .inl (T 1, 7, .inr (.inl fo))), (wo, .inr (8, [.ref la, .ref cl, .ref p0, .ref p1, .ref p4, .int n])), (la, .inr (5, [.int (l9 0), .int (l9 1), .int (l9 2), .int (l9 3), .int (l9 4), .int (l9 5), .int (l9 6)])), (cl, .inr (1, [.int n0, .ref c1, .ref c2, .ref c3, .ref c4, .ref c5, .ref c6, .ref c7])), (c1, .inl (T 0, 24, .inl f1)), (c2, .inl (T 0, 24, .inl f2)), (c3, .inl (T 0, 24, .inl f3)), (c4, .inl (T 0, 24, .inl f4)), (c5, .inl (T 0, 24, .inl f5)), (p0, .inl (T 1, 676, .inr (.inl g0))), (p1, .inl (T 1, 676, .inr (.inl g1))), (p4, .inl (T 0, 672, .inl g4)), (c6, .inl (T 0, 24, .inl f6))]) hD hS hA [1, 2, 3, 4, 5, 6, 7, 8, 9, 10, 11, 12, 13, 14] rfl
        refine va_callv (va_runV (As := [.int x1, .int x2, .int x3]) (rest := []) ⟨hx, hb, hml, hown, hts⟩ (c_X3_gather l D T ad sa av ta _ fa on dy mu pa fo wo la cl p0 p1 p4 n l9 n0 c1 c2 c3 c4 c5 c6 c7 f1 f2 f3 f4 f5 g0 g1 g4 f6 x1 x2 x3 (by omega) (by omega) (by omega) hok (by omega) hmm hlq) (cwV 3 hts gX12_failed_X3_gather rfl rfl rfl hv_X3_gather ⟨Nat.le_of_ble_eq_true rfl, Nat.le_of_ble_eq_true rfl⟩) (pWk_V (q := (RX3, TX3, 7)) (ci := 2) (q0 := 1) hP hE hD hV hS hFc rfl rfl [1, 2, 3, 4, 5, 6, 7, 8, 9, 10, 11, 12, 13, 14] (by decide +kernel) rfl rfl) rfl rfl hl.1 rfl (lv_room (Nat.le_of_ble_eq_true rfl)) dX12_failed_40 ⟨Nat.le_of_ble_eq_true rfl, Nat.le_of_ble_eq_true rfl⟩) hS (fun q _ h => hFc q h) hFc (fun u_8 t H1 locs ht hvm hr_7 hB hz1 hk1 hS => ?_)
        obtain ⟨f_9, n_10, n_11, f_12, f_13, f_14⟩ := u_8
        have hsfhr_7 : stW (VALW l9 f1 f2 f3 f4 f5) n0 n (fun _ => True) g0 g1 g4 f_12 f_13 f_14 := hr_7.2
        have hst : stW (VALW l9 f1 f2 f3 f4 f5) n0 n (fun _ => True) g0 g1 g4 f_12 f_13 f_14 := hst.tr hsfhr_7 (fun _ _ => trivial)
        have hmm : memW (VALW l9 f1 f2 f3 f4 f5) n0 n f_12 f_13 f_14 := hst.1
        have hgahr_7 : dusP l9 f1 f2 f3 f4 f5 f6 (VALW l9 f1 f2 f3 f4 f5) x3 x1 x2 ((f_9, n_10, n_11) : duS) := hr_7.1
        obtain ⟨hP1, hD1⟩ := hB
        rw [ht] at hP1
        obtain ⟨hP, hD⟩ := va_repl [(h0, .inr (9, fs0)), (fa, .inr (2, [.ref la, .ref cl, .ref wo, .ref on, .int n_10, .int n_11, .int x3])), (on, .inl (T 1, 7, .inr (.inl f_9))), (wo, .inr (8, [.ref la, .ref cl, .ref p0, .ref p1, .ref p4, .int n])), (la, .inr (5, [.int (l9 0), .int (l9 1), .int (l9 2), .int (l9 3), .int (l9 4), .int (l9 5), .int (l9 6)])), (cl, .inr (1, [.int n0, .ref c1, .ref c2, .ref c3, .ref c4, .ref c5, .ref c6, .ref c7])), (c1, .inl (T 0, 24, .inl f1)), (c2, .inl (T 0, 24, .inl f2)), (c3, .inl (T 0, 24, .inl f3)), (c4, .inl (T 0, 24, .inl f4)), (c5, .inl (T 0, 24, .inl f5)), (p0, .inl (T 1, 676, .inr (.inl f_12))), (p1, .inl (T 1, 676, .inr (.inl f_13))), (p4, .inl (T 0, 672, .inl f_14)), (c6, .inl (T 0, 24, .inl f6))] hP hD [1, 2, 3, 4, 5, 6, 7, 8, 9, 10, 11, 12, 13, 14] [1, 2, 3, 4, 5, 6, 7, 8, 9, 10, 11, 12, 13, 14] rfl (by decide +kernel) rfl rfl rfl hk1 hP1
        clear hP1 hD1 hFc
        generalize H1 = H at hP hS ⊢
        refine lv_aload_n hx hb dX12_failed_43 rfl (lv_at hl 0 rfl) ?_
        refine va_get (D := D) (ci := 9) (v := .ref fa) (C := RX12) (T := TX12) (N := 11) hx hb hts in_X12_failed_X12 hown hE.1 hP 0 rfl rfl 7 (by decide +kernel) (hts (.fieldLink RX12 52 "ClauseBook" "falling" "LClauseBook$Falling;") (List.mem_of_getElem? (i := 2) rfl)) (fun _ h9 => h9) e0_7 dX12_failed_44 ?_
        refine lv_iconst (v := 0) hx hb dX12_failed_47 (by decide +kernel) ?_
        refine lv_iload hx hb dX12_failed_48 (lv_at hl 4 rfl) ?_
        have hFc := va_free (wc := [(fa, .inr (2, [.ref la, .ref cl, .ref wo, .ref on, .int n_10, .int n_11, .int x3])), (on, .inl (T 1, 7, .inr (.inl f_9)))]) hD hS hA [1, 2] rfl
        refine va_calll (va_runV (As := [.int 0, .int x4]) (rest := []) ⟨hx, hb, hml, hown, hts⟩ (c_X3_total l D T _ fa on (.ref la) (.ref cl) (.ref wo) n_10 n_11 x3 f_9 0 x4 (by first | (simp only [ti_0]; omega) | (simp only [ti_7]; omega) | omega)) (cwV 2 hts gX12_failed_X3_total rfl rfl rfl hv_X3_total ⟨Nat.le_of_ble_eq_true rfl, Nat.le_of_ble_eq_true rfl⟩) (pW_V (q := (RX3, TX3, 7)) (ci := 2) (q0 := 1) hP hE hD rfl rfl [1, 2] (by decide +kernel) rfl rfl) rfl rfl hl.1 rfl (lv_room (Nat.le_of_ble_eq_true rfl)) dX12_failed_50 ⟨Nat.le_of_ble_eq_true rfl, Nat.le_of_ble_eq_true rfl⟩) hS (fun q _ h => hFc q h) hFc (fun r_15 u_16 t H1 locs ht hvm hr_15 hB hz1 hk1 hS => ?_)
        have htt_r_15 : totP f_9 (0 : Int32).toNatClampNeg (x4.toNatClampNeg - (0 : Int32).toNatClampNeg) r_15 n_11 u_16 := hr_15
        obtain ⟨hP1, hD1⟩ := hB
        rw [ht] at hP1
        obtain ⟨hP, hD⟩ := va_repl [(h0, .inr (9, fs0)), (fa, .inr (2, [.ref la, .ref cl, .ref wo, .ref on, .int n_10, .int u_16, .int x3])), (on, .inl (T 1, 7, .inr (.inl f_9))), (wo, .inr (8, [.ref la, .ref cl, .ref p0, .ref p1, .ref p4, .int n])), (la, .inr (5, [.int (l9 0), .int (l9 1), .int (l9 2), .int (l9 3), .int (l9 4), .int (l9 5), .int (l9 6)])), (cl, .inr (1, [.int n0, .ref c1, .ref c2, .ref c3, .ref c4, .ref c5, .ref c6, .ref c7])), (c1, .inl (T 0, 24, .inl f1)), (c2, .inl (T 0, 24, .inl f2)), (c3, .inl (T 0, 24, .inl f3)), (c4, .inl (T 0, 24, .inl f4)), (c5, .inl (T 0, 24, .inl f5)), (p0, .inl (T 1, 676, .inr (.inl f_12))), (p1, .inl (T 1, 676, .inr (.inl f_13))), (p4, .inl (T 0, 672, .inl f_14)), (c6, .inl (T 0, 24, .inl f6))] hP hD [1, 2] [1, 2] rfl (by decide +kernel) rfl rfl rfl hk1 hP1
        clear hP1 hD1 hFc
        generalize H1 = H at hP hS ⊢
        refine lv_lstore (lv' := [(6, .long r_15), (0, .ref h0), (1, .int x1), (2, .int x2), (3, .int x3), (4, .int x4), (5, .int x5)]) hx hb dX12_failed_53 hl (by decide +kernel) rfl (fun ls hl => ?_)
        refine lv_aload_n hx hb dX12_failed_55 rfl (lv_at hl 1 rfl) ?_
        refine va_get (D := D) (ci := 9) (v := .ref fa) (C := RX12) (T := TX12) (N := 11) hx hb hts in_X12_failed_X12 hown hE.1 hP 0 rfl rfl 7 (by decide +kernel) (hts (.fieldLink RX12 52 "ClauseBook" "falling" "LClauseBook$Falling;") (List.mem_of_getElem? (i := 2) rfl)) (fun _ h9 => h9) e0_7 dX12_failed_56 ?_
        refine lv_iload hx hb dX12_failed_59 (lv_at hl 5 rfl) ?_
        refine lv_bipush (v := 7) hx hb dX12_failed_61 (by decide +kernel) ?_
        have hFc := va_free (wc := [(fa, .inr (2, [.ref la, .ref cl, .ref wo, .ref on, .int n_10, .int u_16, .int x3])), (on, .inl (T 1, 7, .inr (.inl f_9)))]) hD hS hA [1, 2] rfl
        refine va_calll (va_runV (As := [.int x4, .int 7]) (rest := []) ⟨hx, hb, hml, hown, hts⟩ (c_X3_total l D T _ fa on (.ref la) (.ref cl) (.ref wo) n_10 u_16 x3 f_9 x4 7 (by first | (simp only [ti_0]; omega) | (simp only [ti_7]; omega) | omega)) (cwV 2 hts gX12_failed_X3_total rfl rfl rfl hv_X3_total ⟨Nat.le_of_ble_eq_true rfl, Nat.le_of_ble_eq_true rfl⟩) (pW_V (q := (RX3, TX3, 7)) (ci := 2) (q0 := 1) hP hE hD rfl rfl [1, 2] (by decide +kernel) rfl rfl) rfl rfl hl.1 rfl (lv_room (Nat.le_of_ble_eq_true rfl)) dX12_failed_63 ⟨Nat.le_of_ble_eq_true rfl, Nat.le_of_ble_eq_true rfl⟩) hS (fun q _ h => hFc q h) hFc (fun r_17 u_18 t H1 locs ht hvm hr_17 hB hz1 hk1 hS => ?_)
        have htt_r_17 : totP f_9 x4.toNatClampNeg ((7 : Int32).toNatClampNeg - x4.toNatClampNeg) r_17 u_16 u_18 := hr_17
        obtain ⟨hP1, hD1⟩ := hB
        rw [ht] at hP1
        obtain ⟨hP, hD⟩ := va_repl [(h0, .inr (9, fs0)), (fa, .inr (2, [.ref la, .ref cl, .ref wo, .ref on, .int n_10, .int u_18, .int x3])), (on, .inl (T 1, 7, .inr (.inl f_9))), (wo, .inr (8, [.ref la, .ref cl, .ref p0, .ref p1, .ref p4, .int n])), (la, .inr (5, [.int (l9 0), .int (l9 1), .int (l9 2), .int (l9 3), .int (l9 4), .int (l9 5), .int (l9 6)])), (cl, .inr (1, [.int n0, .ref c1, .ref c2, .ref c3, .ref c4, .ref c5, .ref c6, .ref c7])), (c1, .inl (T 0, 24, .inl f1)), (c2, .inl (T 0, 24, .inl f2)), (c3, .inl (T 0, 24, .inl f3)), (c4, .inl (T 0, 24, .inl f4)), (c5, .inl (T 0, 24, .inl f5)), (p0, .inl (T 1, 676, .inr (.inl f_12))), (p1, .inl (T 1, 676, .inr (.inl f_13))), (p4, .inl (T 0, 672, .inl f_14)), (c6, .inl (T 0, 24, .inl f6))] hP hD [1, 2] [1, 2] rfl (by decide +kernel) rfl rfl rfl hk1 hP1
        clear hP1 hD1 hFc
        generalize H1 = H at hP hS ⊢
        refine lv_lstore (lv' := [(8, .long r_17), (6, .long r_15), (0, .ref h0), (1, .int x1), (2, .int x2), (3, .int x3), (4, .int x4), (5, .int x5)]) hx hb dX12_failed_66 hl (by decide +kernel) rfl (fun ls hl => ?_)
        refine lv_aload_n hx hb dX12_failed_68 rfl (lv_at hl 2 rfl) ?_
        refine va_get (D := D) (ci := 9) (v := .ref fa) (C := RX12) (T := TX12) (N := 11) hx hb hts in_X12_failed_X12 hown hE.1 hP 0 rfl rfl 7 (by decide +kernel) (hts (.fieldLink RX12 52 "ClauseBook" "falling" "LClauseBook$Falling;") (List.mem_of_getElem? (i := 2) rfl)) (fun _ h9 => h9) e0_7 dX12_failed_69 ?_
        refine va_get (D := D) (ci := 2) (v := .int u_18) (C := RX3) (T := TX3) (N := 7) hx hb hts in_X12_failed_X3 hown hE.1 hP 1 rfl rfl 5 (by decide +kernel) (hts (.fieldLink RX12 256 "ClauseBook$Falling" "much" "Z") (List.mem_of_getElem? (i := 3) rfl)) (fun _ h9 => h9) rfl dX12_failed_72 ?_
        refine lv_if_ne (tgt := 89) hx hb dX12_failed_75 (by decide +kernel) (fun c_19 => ?_) (fun c_19 => ?_)
        · rw [fa_eq] at c_19
          try rw [ti_0] at c_19
          refine lv_ldc2 (v := (-4611686018427387909)) hx hb hown (hts (.constantLong RX12 200 (-4611686018427387909)) (List.mem_of_getElem? (i := 4) rfl)) dX12_failed_89 ?_
          exact W.lret hx hb hr (fun t ht hW => ⟨⟨_, (f_9, n_10, u_18, f_12, f_13, f_14, x3), rfl, ⟨(Or.inr ⟨⟨⟨⟨(by omega), (by omega), (by omega)⟩, (by omega), (by omega)⟩, (by omega), (by omega)⟩, ((f_9, n_10, n_11) : duS), hgahr_7, fs_mu (u := ((f_9, n_10, n_11) : duS)) (tot_a htt_r_15) (tot_b htt_r_17) (by first | exact Or.inl (by omega) | exact Or.inr (by assumption)) (by decide +kernel)⟩), hst⟩, by rw [ht]; exact hP.sub [0, 1, 2, 3, 4, 5, 6, 7, 8, 9, 10, 11, 12, 13, 14] rfl, hD.sub [0, 1, 2, 3, 4, 5, 6, 7, 8, 9, 10, 11, 12, 13, 14] (by decide +kernel) rfl⟩, hS.F ht⟩) hS.2.2 dX12_failed_92
        · rw [fa_eq] at c_19
          try rw [ti_0] at c_19
          refine lv_lload hx hb dX12_failed_78 (lv_at hl 0 rfl) ?_
          refine lv_iload hx hb dX12_failed_80 (lv_at hl 7 rfl) ?_
          refine lv_i2l hx hb dX12_failed_82 rfl ?_
          refine vp_callSi (W.runS (As := [.long r_17, .long (x5.toInt64)]) (rest := []) ⟨hx, hb, hml, hown, hts⟩ (c_X11_productFits l D T r_17 (x5.toInt64)) (va_cwS 2 hts gX12_failed_X11_productFits rfl rfl rfl hs_X11_productFits ⟨Nat.le_of_ble_eq_true rfl, Nat.le_of_ble_eq_true rfl⟩) (pR_S hP hE [] rfl) rfl rfl hl.1 rfl (lv_room (Nat.le_of_ble_eq_true rfl)) dX12_failed_83 ⟨Nat.le_of_ble_eq_true rfl, Nat.le_of_ble_eq_true rfl⟩) (fun r_20 hr_20 => ?_)
          rcases bool_post hr_20 with ⟨c_21, rfl⟩ | ⟨c_21, rfl⟩
          · refine lv_if_ne (tgt := 93) hx hb dX12_failed_86 (by decide +kernel) (fun _ => ?_) (fun c9 => absurd c9 (by decide +kernel))
            refine lv_lload hx hb dX12_failed_93 (lv_at hl 0 rfl) ?_
            refine lv_iload hx hb dX12_failed_95 (lv_at hl 7 rfl) ?_
            refine lv_i2l hx hb dX12_failed_97 rfl ?_
            refine lv_lmul hx hb dX12_failed_98 ?_
            refine lv_ldc2 (v := 9) hx hb hown (hts (.constantLong RX12 272 (9)) (List.mem_of_getElem? (i := 5) rfl)) dX12_failed_99 ?_
            refine lv_ldiv hx hb dX12_failed_102 (by decide +kernel) ?_
            refine lv_topl (fun z_22 ez_22 => ?_)
            refine lv_lstore (lv' := [(10, .long z_22), (8, .long r_17), (6, .long r_15), (0, .ref h0), (1, .int x1), (2, .int x2), (3, .int x3), (4, .int x4), (5, .int x5)]) hx hb dX12_failed_103 hl (by decide +kernel) rfl (fun ls hl => ?_)
            refine lv_lload hx hb dX12_failed_105 (lv_at hl 2 rfl) ?_
            refine lv_lload hx hb dX12_failed_107 (lv_at hl 0 rfl) ?_
            refine vp_callSi (W.runS (As := [.long r_15, .long z_22]) (rest := []) ⟨hx, hb, hml, hown, hts⟩ (c_X11_sumFits l D T r_15 z_22) (va_cwS 2 hts gX12_failed_X11_sumFits rfl rfl rfl hs_X11_sumFits ⟨Nat.le_of_ble_eq_true rfl, Nat.le_of_ble_eq_true rfl⟩) (pR_S hP hE [] rfl) rfl rfl hl.1 rfl (lv_room (Nat.le_of_ble_eq_true rfl)) dX12_failed_109 ⟨Nat.le_of_ble_eq_true rfl, Nat.le_of_ble_eq_true rfl⟩) (fun r_23 hr_23 => ?_)
            rcases bool_post hr_23 with ⟨c_24, rfl⟩ | ⟨c_24, rfl⟩
            · refine lv_if_eq (tgt := 123) hx hb dX12_failed_112 (by decide +kernel) (fun c9 => absurd c9 (by decide +kernel)) (fun _ => ?_)
              refine lv_lload hx hb dX12_failed_115 (lv_at hl 2 rfl) ?_
              refine lv_lload hx hb dX12_failed_117 (lv_at hl 0 rfl) ?_
              refine lv_ladd hx hb dX12_failed_119 ?_
              refine lv_goto (tgt := 126) hx hb dX12_failed_120 (by decide +kernel) ?_
              exact W.lret hx hb hr (fun t ht hW => ⟨⟨_, (f_9, n_10, u_18, f_12, f_13, f_14, x3), rfl, ⟨(Or.inr ⟨⟨⟨⟨(by omega), (by omega), (by omega)⟩, (by omega), (by omega)⟩, (by omega), (by omega)⟩, ((f_9, n_10, n_11) : duS), hgahr_7, fs_ok (u := ((f_9, n_10, n_11) : duS)) (tot_a htt_r_15) (tot_b htt_r_17) (show (u_18 : Int32).toInt = 0 from by omega) (by assumption) ez_22 (by assumption)⟩), hst⟩, by rw [ht]; exact hP.sub [0, 1, 2, 3, 4, 5, 6, 7, 8, 9, 10, 11, 12, 13, 14] rfl, hD.sub [0, 1, 2, 3, 4, 5, 6, 7, 8, 9, 10, 11, 12, 13, 14] (by decide +kernel) rfl⟩, hS.F ht⟩) hS.2.2 dX12_failed_126
            · refine lv_if_eq (tgt := 123) hx hb dX12_failed_112 (by decide +kernel) (fun _ => ?_) (fun c9 => absurd c9 (by decide +kernel))
              refine lv_ldc2 (v := (-4611686018427387909)) hx hb hown (hts (.constantLong RX12 200 (-4611686018427387909)) (List.mem_of_getElem? (i := 4) rfl)) dX12_failed_123 ?_
              exact W.lret hx hb hr (fun t ht hW => ⟨⟨_, (f_9, n_10, u_18, f_12, f_13, f_14, x3), rfl, ⟨(Or.inr ⟨⟨⟨⟨(by omega), (by omega), (by omega)⟩, (by omega), (by omega)⟩, (by omega), (by omega)⟩, ((f_9, n_10, n_11) : duS), hgahr_7, fs_no (u := ((f_9, n_10, n_11) : duS)) (tot_a htt_r_15) (tot_b htt_r_17) ez_22 (by assumption) (by decide +kernel)⟩), hst⟩, by rw [ht]; exact hP.sub [0, 1, 2, 3, 4, 5, 6, 7, 8, 9, 10, 11, 12, 13, 14] rfl, hD.sub [0, 1, 2, 3, 4, 5, 6, 7, 8, 9, 10, 11, 12, 13, 14] (by decide +kernel) rfl⟩, hS.F ht⟩) hS.2.2 dX12_failed_126
          · refine lv_if_ne (tgt := 93) hx hb dX12_failed_86 (by decide +kernel) (fun c9 => absurd c9 (by decide +kernel)) (fun _ => ?_)
            refine lv_ldc2 (v := (-4611686018427387909)) hx hb hown (hts (.constantLong RX12 200 (-4611686018427387909)) (List.mem_of_getElem? (i := 4) rfl)) dX12_failed_89 ?_
            exact W.lret hx hb hr (fun t ht hW => ⟨⟨_, (f_9, n_10, u_18, f_12, f_13, f_14, x3), rfl, ⟨(Or.inr ⟨⟨⟨⟨(by omega), (by omega), (by omega)⟩, (by omega), (by omega)⟩, (by omega), (by omega)⟩, ((f_9, n_10, n_11) : duS), hgahr_7, fs_mu (u := ((f_9, n_10, n_11) : duS)) (tot_a htt_r_15) (tot_b htt_r_17) (by first | exact Or.inl (by omega) | exact Or.inr (by assumption)) (by decide +kernel)⟩), hst⟩, by rw [ht]; exact hP.sub [0, 1, 2, 3, 4, 5, 6, 7, 8, 9, 10, 11, 12, 13, 14] rfl, hD.sub [0, 1, 2, 3, 4, 5, 6, 7, 8, 9, 10, 11, 12, 13, 14] (by decide +kernel) rfl⟩, hS.F ht⟩) hS.2.2 dX12_failed_92
      · refine lv_if_ne (tgt := 33) hx hb dX12_failed_26 (by decide +kernel) (fun c9 => absurd c9 (by decide +kernel)) (fun _ => ?_)
        refine lv_ldc2 (v := (-4611686018427387906)) hx hb hown (hts (.constantLong RX12 183 (-4611686018427387906)) (List.mem_of_getElem? (i := 1) rfl)) dX12_failed_29 ?_
        exact W.lret hx hb hr (fun t ht hW => ⟨⟨_, (fo, dy, mu, g0, g1, g4, pa), rfl, ⟨(Or.inl ⟨(fun h9 => by obtain ⟨⟨⟨h1, h2, h3⟩, h4⟩, h5⟩ := h9; omega), (by decide +kernel)⟩), hst⟩, by rw [ht]; exact hP.sub [0, 1, 2, 3, 4, 5, 6, 7, 8, 9, 10, 11, 12, 13, 14] rfl, hD.sub [0, 1, 2, 3, 4, 5, 6, 7, 8, 9, 10, 11, 12, 13, 14] (by decide +kernel) rfl⟩, hS.F ht⟩) hS.2.2 dX12_failed_32
    · refine lv_if_eq (tgt := 29) hx hb dX12_failed_15 (by decide +kernel) (fun _ => ?_) (fun c9 => absurd c9 (by decide +kernel))
      refine lv_ldc2 (v := (-4611686018427387906)) hx hb hown (hts (.constantLong RX12 183 (-4611686018427387906)) (List.mem_of_getElem? (i := 1) rfl)) dX12_failed_29 ?_
      exact W.lret hx hb hr (fun t ht hW => ⟨⟨_, (fo, dy, mu, g0, g1, g4, pa), rfl, ⟨(Or.inl ⟨(fun h9 => by obtain ⟨⟨⟨h1, h2, h3⟩, h4⟩, h5⟩ := h9; omega), (by decide +kernel)⟩), hst⟩, by rw [ht]; exact hP.sub [0, 1, 2, 3, 4, 5, 6, 7, 8, 9, 10, 11, 12, 13, 14] rfl, hD.sub [0, 1, 2, 3, 4, 5, 6, 7, 8, 9, 10, 11, 12, 13, 14] (by decide +kernel) rfl⟩, hS.F ht⟩) hS.2.2 dX12_failed_32
  · refine lv_if_eq (tgt := 29) hx hb dX12_failed_7 (by decide +kernel) (fun _ => ?_) (fun c9 => absurd c9 (by decide +kernel))
    refine lv_ldc2 (v := (-4611686018427387906)) hx hb hown (hts (.constantLong RX12 183 (-4611686018427387906)) (List.mem_of_getElem? (i := 1) rfl)) dX12_failed_29 ?_
    exact W.lret hx hb hr (fun t ht hW => ⟨⟨_, (fo, dy, mu, g0, g1, g4, pa), rfl, ⟨(Or.inl ⟨(fun h9 => by obtain ⟨⟨⟨h1, h2, h3⟩, h4⟩, h5⟩ := h9; omega), (by decide +kernel)⟩), hst⟩, by rw [ht]; exact hP.sub [0, 1, 2, 3, 4, 5, 6, 7, 8, 9, 10, 11, 12, 13, 14] rfl, hD.sub [0, 1, 2, 3, 4, 5, 6, 7, 8, 9, 10, 11, 12, 13, 14] (by decide +kernel) rfl⟩, hS.F ht⟩) hS.2.2 dX12_failed_32
