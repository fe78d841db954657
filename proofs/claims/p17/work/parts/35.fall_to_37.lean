section
/-- fall, of a clause less than d -/
def cF_fall (l : Launch) (D : va_G) (T : Nat → ClassId) (ad sa av : Nat → Nat) (ta : Nat) (d : Nat) : Prop := ∀ (sz : Nat) (h0 : Nat) (on : Nat) (dy : Int32) (mu : Int32) (pa : Int32) (fo : Nat → Int64) (wo : Nat) (la : Nat) (cl : Nat) (p0 : Nat) (p1 : Nat) (p4 : Nat) (n : Int32) (l9 : Nat → Int32) (n0 : Int32) (c1 : Nat) (c2 : Nat) (c3 : Nat) (c4 : Nat) (c5 : Nat) (c6 : Nat) (c7 : Nat) (f1 : Nat → Int32) (f2 : Nat → Int32) (f3 : Nat → Int32) (f4 : Nat → Int32) (f5 : Nat → Int32) (g0 : Nat → Int64) (g1 : Nat → Int64) (g4 : Nat → Int32) (x1 x2 : Int32) (x3 : Int64) (_ : 0 ≤ x1.toInt ∧ x1.toInt < 24) (_ : 0 ≤ x2.toInt ∧ x2.toInt ≤ 6) (_ : 0 ≤ pa.toInt ∧ pa.toInt ≤ 63) (_ : okC f1 f3 f4 f5) (_ : x1.toInt < n0.toInt) (_ : memW (VALW l9 f1 f2 f3 f4 f5) n0 n g0 g1 g4) (_ : (1 ≤ (l9 4).toInt ∧ (l9 4).toInt ≤ 9) ∧ 1 ≤ (l9 6).toInt ∧ (l9 6).toInt ≤ 9) (_ : x1.toInt < d), Met l yX3_fall wsX3_fall ({ frames := 2 * d + 75, cells := 0, slots := 0, locals := 64 * d + 2400 }) (pWk [.ref h0, .int x1, .int x2, .long x3] D T [(h0, .inr (2, [.ref la, .ref cl, .ref wo, .ref on, .int dy, .int mu, .int pa])), (on, .inl (T 1, 7, .inr (.inl fo))), (wo, .inr (8, [.ref la, .ref cl, .ref p0, .ref p1, .ref p4, .int n])), (la, .inr (5, [.int (l9 0), .int (l9 1), .int (l9 2), .int (l9 3), .int (l9 4), .int (l9 5), .int (l9 6)])), (cl, .inr (1, [.int n0, .ref c1, .ref c2, .ref c3, .ref c4, .ref c5, .ref c6, .ref c7])), (c1, .inl (T 0, 24, .inl f1)), (c2, .inl (T 0, 24, .inl f2)), (c3, .inl (T 0, 24, .inl f3)), (c4, .inl (T 0, 24, .inl f4)), (c5, .inl (T 0, 24, .inl f5)), (p0, .inl (T 1, 676, .inr (.inl g0))), (p1, .inl (T 1, 676, .inr (.inl g1))), (p4, .inl (T 0, 672, .inl g4))] sz ad sa av ta) (va_Qv (fun (u : (Nat → Int64) × Int32 × Int32 × (Nat → Int64) × (Nat → Int64) × (Nat → Int32)) => falP l9 f1 f2 f3 f4 f5 (VALW l9 f1 f2 f3 f4 f5) pa d x1 x2 x3 ((fo, dy, mu) : duS) ((u.1, u.2.1, u.2.2.1) : duS) ∧ stW (VALW l9 f1 f2 f3 f4 f5) n0 n (fun _ => True) g0 g1 g4 u.2.2.2.1 u.2.2.2.2.1 u.2.2.2.2.2) (bW D (va_A [(h0, .inr (2, [.ref la, .ref cl, .ref wo, .ref on, .int dy, .int mu, .int pa])), (on, .inl (T 1, 7, .inr (.inl fo))), (wo, .inr (8, [.ref la, .ref cl, .ref p0, .ref p1, .ref p4, .int n])), (la, .inr (5, [.int (l9 0), .int (l9 1), .int (l9 2), .int (l9 3), .int (l9 4), .int (l9 5), .int (l9 6)])), (cl, .inr (1, [.int n0, .ref c1, .ref c2, .ref c3, .ref c4, .ref c5, .ref c6, .ref c7])), (c1, .inl (T 0, 24, .inl f1)), (c2, .inl (T 0, 24, .inl f2)), (c3, .inl (T 0, 24, .inl f3)), (c4, .inl (T 0, 24, .inl f4)), (c5, .inl (T 0, 24, .inl f5)), (p0, .inl (T 1, 676, .inr (.inl g0))), (p1, .inl (T 1, 676, .inr (.inl g1))), (p4, .inl (T 0, 672, .inl g4))] sz) (fun (u : (Nat → Int64) × Int32 × Int32 × (Nat → Int64) × (Nat → Int64) × (Nat → Int32)) => [(h0, .inr (2, [.ref la, .ref cl, .ref wo, .ref on, .int u.2.1, .int u.2.2.1, .int pa])), (on, .inl (T 1, 7, .inr (.inl u.1))), (wo, .inr (8, [.ref la, .ref cl, .ref p0, .ref p1, .ref p4, .int n])), (la, .inr (5, [.int (l9 0), .int (l9 1), .int (l9 2), .int (l9 3), .int (l9 4), .int (l9 5), .int (l9 6)])), (cl, .inr (1, [.int n0, .ref c1, .ref c2, .ref c3, .ref c4, .ref c5, .ref c6, .ref c7])), (c1, .inl (T 0, 24, .inl f1)), (c2, .inl (T 0, 24, .inl f2)), (c3, .inl (T 0, 24, .inl f3)), (c4, .inl (T 0, 24, .inl f4)), (c5, .inl (T 0, 24, .inl f5)), (p0, .inl (T 1, 676, .inr (.inl u.2.2.2.1))), (p1, .inl (T 1, 676, .inr (.inl u.2.2.2.2.1))), (p4, .inl (T 0, 672, .inl u.2.2.2.2.2))])) (va_A [(h0, .inr (2, [.ref la, .ref cl, .ref wo, .ref on, .int dy, .int mu, .int pa])), (on, .inl (T 1, 7, .inr (.inl fo))), (wo, .inr (8, [.ref la, .ref cl, .ref p0, .ref p1, .ref p4, .int n])), (la, .inr (5, [.int (l9 0), .int (l9 1), .int (l9 2), .int (l9 3), .int (l9 4), .int (l9 5), .int (l9 6)])), (cl, .inr (1, [.int n0, .ref c1, .ref c2, .ref c3, .ref c4, .ref c5, .ref c6, .ref c7])), (c1, .inl (T 0, 24, .inl f1)), (c2, .inl (T 0, 24, .inl f2)), (c3, .inl (T 0, 24, .inl f3)), (c4, .inl (T 0, 24, .inl f4)), (c5, .inl (T 0, 24, .inl f5)), (p0, .inl (T 1, 676, .inr (.inl g0))), (p1, .inl (T 1, 676, .inr (.inl g1))), (p4, .inl (T 0, 672, .inl g4))] sz)) 0 0 (va_A [(h0, .inr (2, [.ref la, .ref cl, .ref wo, .ref on, .int dy, .int mu, .int pa])), (on, .inl (T 1, 7, .inr (.inl fo))), (wo, .inr (8, [.ref la, .ref cl, .ref p0, .ref p1, .ref p4, .int n])), (la, .inr (5, [.int (l9 0), .int (l9 1), .int (l9 2), .int (l9 3), .int (l9 4), .int (l9 5), .int (l9 6)])), (cl, .inr (1, [.int n0, .ref c1, .ref c2, .ref c3, .ref c4, .ref c5, .ref c6, .ref c7])), (c1, .inl (T 0, 24, .inl f1)), (c2, .inl (T 0, 24, .inl f2)), (c3, .inl (T 0, 24, .inl f3)), (c4, .inl (T 0, 24, .inl f4)), (c5, .inl (T 0, 24, .inl f5)), (p0, .inl (T 1, 676, .inr (.inl g0))), (p1, .inl (T 1, 676, .inr (.inl g1))), (p4, .inl (T 0, 672, .inl g4))] sz)
theorem dX3_fallTimes_0 : decode cX3_fallTimes 0 = .ok (.lload_n 3, 1) := by decide +kernel
theorem dX3_fallTimes_1 : decode cX3_fallTimes 1 = .ok (.lload 5, 2) := by decide +kernel
theorem dX3_fallTimes_10 : decode cX3_fallTimes 10 = .ok (.iload_n 1, 1) := by decide +kernel
theorem dX3_fallTimes_11 : decode cX3_fallTimes 11 = .ok (.iload_n 2, 1) := by decide +kernel
theorem dX3_fallTimes_12 : decode cX3_fallTimes 12 = .ok (.lload_n 3, 1) := by decide +kernel
theorem dX3_fallTimes_13 : decode cX3_fallTimes 13 = .ok (.lload 5, 2) := by decide +kernel
theorem dX3_fallTimes_15 : decode cX3_fallTimes 15 = .ok (.lmul, 1) := by decide +kernel
theorem dX3_fallTimes_16 : decode cX3_fallTimes 16 = .ok (.invokevirtual 44, 3) := by decide +kernel
theorem dX3_fallTimes_19 : decode cX3_fallTimes 19 = .ok (.goto 8, 3) := by decide +kernel
theorem dX3_fallTimes_22 : decode cX3_fallTimes 22 = .ok (.aload_n 0, 1) := by decide +kernel
theorem dX3_fallTimes_23 : decode cX3_fallTimes 23 = .ok (.iconst 1, 1) := by decide +kernel
theorem dX3_fallTimes_24 : decode cX3_fallTimes 24 = .ok (.putfield 19, 3) := by decide +kernel
theorem dX3_fallTimes_27 : decode cX3_fallTimes 27 = .ok (.return_, 1) := by decide +kernel
theorem dX3_fallTimes_3 : decode cX3_fallTimes 3 = .ok (.invokestatic 103, 3) := by decide +kernel
theorem dX3_fallTimes_6 : decode cX3_fallTimes 6 = .ok (.ifCond .eq 16, 3) := by decide +kernel
theorem dX3_fallTimes_9 : decode cX3_fallTimes 9 = .ok (.aload_n 0, 1) := by decide +kernel
set_option maxRecDepth 20000 in
theorem ggX3_fallTimes_X11_productFits : GoodIn wsX3_fallTimes wsX11_productFits := goodIn_r _ [5, 6, 7] rfl (by decide +kernel)
set_option maxRecDepth 40000 in
theorem ggX3_fallTimes_X3_fall_0 : GoodIn wsX3_fallTimes [.code yX3_fall cX3_fall 8 none] := goodIn_r _ [12] rfl (by decide +kernel)
set_option maxRecDepth 40000 in
theorem ggX3_fallTimes_X3_fall_1 : GoodIn wsX3_fallTimes wsX3_fall_r1 := goodIn_r _ [1, 13, 14, 15, 16, 17, 18, 19, 20, 21, 22, 23, 24, 25, 26, 27, 28, 29, 30, 31, 32, 33, 34, 35] rfl (by decide +kernel)
set_option maxRecDepth 40000 in
theorem ggX3_fallTimes_X3_fall_2 : GoodIn wsX3_fallTimes wsX3_fall_r2 := goodIn_r _ [36, 37, 38, 11, 39, 40, 41, 42, 43, 4, 44, 45, 46, 47, 48, 49, 50, 51, 52, 53, 54, 55, 56, 57] rfl (by decide +kernel)
set_option maxRecDepth 40000 in
theorem ggX3_fallTimes_X3_fall_3 : GoodIn wsX3_fallTimes wsX3_fall_r3 := goodIn_r _ [58, 59, 60, 61, 62, 63, 64, 65, 8, 9, 10, 66, 67, 68, 69, 70, 71, 72, 73, 74, 75, 76, 77, 78] rfl (by decide +kernel)
set_option maxRecDepth 40000 in
theorem ggX3_fallTimes_X3_fall_4 : GoodIn wsX3_fallTimes wsX3_fall_r4 := goodIn_r _ [79, 80, 81, 6, 82, 83, 84, 85, 86, 87, 88, 89, 90, 91, 92, 93, 94, 95, 96, 97, 98, 3, 5, 7] rfl (by decide +kernel)
set_option maxRecDepth 40000 in
theorem ggX3_fallTimes_X3_fall_5 : GoodIn wsX3_fallTimes wsX3_fall_r5 := goodIn_r _ [99, 100, 101, 102, 103, 104, 105, 106, 107, 108, 109, 110, 111, 112, 113, 114, 115, 116, 117, 118, 119, 120, 121, 122] rfl (by decide +kernel)
set_option maxRecDepth 40000 in
theorem ggX3_fallTimes_X3_fall_6 : GoodIn wsX3_fallTimes wsX3_fall_r6 := goodIn_r _ [123, 124, 125, 126, 127, 128, 129, 130, 131, 132, 133, 134, 135, 136, 137, 138, 139, 140, 141, 142, 143, 144, 145, 146] rfl (by decide +kernel)
set_option maxRecDepth 40000 in
theorem ggX3_fallTimes_X3_fall_7 : GoodIn wsX3_fallTimes wsX3_fall_r7 := goodIn_r _ [147, 148, 149, 150, 151, 152, 0, 2] rfl (by decide +kernel)
set_option maxRecDepth 40000 in
theorem ggX3_fallTimes_X3_fall_8 : GoodIn wsX3_fallTimes wsX30 := goodIn_r _ [153, 154, 155, 156, 157, 158, 159] rfl (by decide +kernel)
set_option maxRecDepth 40000 in
theorem ggX3_fallTimes_X3_fall_9 : GoodIn wsX3_fallTimes wsX20 := goodIn_r _ [160, 161, 162, 163, 164, 165, 166, 167] rfl (by decide +kernel)
set_option maxRecDepth 40000 in
theorem ggX3_fallTimes_X3_fall_10 : GoodIn wsX3_fallTimes wsX80 := goodIn_r _ [168, 169, 170, 171, 172, 173, 174] rfl (by decide +kernel)
set_option maxRecDepth 40000 in
theorem ggX3_fallTimes_X3_fall_11 : GoodIn wsX3_fallTimes wsX110 := goodIn_r _ [175, 176, 177, 178, 179, 180] rfl (by decide +kernel)
set_option maxRecDepth 40000 in
theorem ggX3_fallTimes_X3_fall : GoodIn wsX3_fallTimes wsX3_fall := (goodIn_app ggX3_fallTimes_X3_fall_0 (goodIn_app (goodIn_app (goodIn_app (goodIn_app (goodIn_app ggX3_fallTimes_X3_fall_1 (goodIn_app ggX3_fallTimes_X3_fall_2 (goodIn_app ggX3_fallTimes_X3_fall_3 (goodIn_app ggX3_fallTimes_X3_fall_4 (goodIn_app ggX3_fallTimes_X3_fall_5 (goodIn_app ggX3_fallTimes_X3_fall_6 ggX3_fallTimes_X3_fall_7)))))) ggX3_fallTimes_X3_fall_8) ggX3_fallTimes_X3_fall_9) ggX3_fallTimes_X3_fall_10) ggX3_fallTimes_X3_fall_11))
set_option maxRecDepth 20000 in
theorem gX3_fallTimes_X11_productFits : GoodIn wsX3_fallTimes (va_wsS RX3 103 yX11_productFits wsX11_productFits) := goodIn_app (goodIn_of _ (by decide +kernel)) ggX3_fallTimes_X11_productFits
set_option maxRecDepth 20000 in
theorem gX3_fallTimes_X3_fall : GoodIn wsX3_fallTimes (wsV RX3 44 RX3 yX3_fall wsX3_fall) := goodIn_app (goodIn_r _ [8, 9, 10, 11] rfl (by decide +kernel)) ggX3_fallTimes_X3_fall
theorem hv_X3_fall : yX3_fall.cls = RX3 ∧ yX3_fall.cls ≠ "java/lang/invoke/MethodHandle" ∧ yX3_fall.cls ≠ "java/lang/invoke/VarHandle" ∧ (parseMethodDescriptor yX3_fall.desc).map (fun d => d.parameters.length) = some 3 := by decide +kernel
set_option maxRecDepth 20000 in
theorem in_X3_fallTimes_X3 : ∀ w ∈ wsX30, w ∈ wsX3_fallTimes := sub_r [153, 154, 155, 156, 157, 158, 159] rfl
set_option maxHeartbeats 4000000 in
set_option maxRecDepth 100000 in
theorem s_X3_fallTimes (l : Launch) (D : va_G) (T : Nat → ClassId) (ad sa av : Nat → Nat) (ta : Nat) (sz : Nat) (h0 : Nat) (on : Nat) (dy : Int32) (mu : Int32) (pa : Int32) (fo : Nat → Int64) (wo : Nat) (la : Nat) (cl : Nat) (p0 : Nat) (p1 : Nat) (p4 : Nat) (n : Int32) (l9 : Nat → Int32) (n0 : Int32) (c1 : Nat) (c2 : Nat) (c3 : Nat) (c4 : Nat) (c5 : Nat) (c6 : Nat) (c7 : Nat) (f1 : Nat → Int32) (f2 : Nat → Int32) (f3 : Nat → Int32) (f4 : Nat → Int32) (f5 : Nat → Int32) (g0 : Nat → Int64) (g1 : Nat → Int64) (g4 : Nat → Int32) (d : Nat) (x1 : Int32) (x2 : Int32) (x3 : Int64) (x4 : Int64) (hx : 0 ≤ x1.toInt ∧ x1.toInt < 24) (hd : 0 ≤ x2.toInt ∧ x2.toInt ≤ 6) (hpa : 0 ≤ pa.toInt ∧ pa.toInt ≤ 63) (hok : okC f1 f3 f4 f5) (hxn : x1.toInt < n0.toInt) (hmm : memW (VALW l9 f1 f2 f3 f4 f5) n0 n g0 g1 g4) (hlq : (1 ≤ (l9 4).toInt ∧ (l9 4).toInt ≤ 9) ∧ 1 ≤ (l9 6).toInt ∧ (l9 6).toInt ≤ 9) (hdep : x1.toInt < d) (hrec : cF_fall l D T ad sa av ta d) : Met l yX3_fallTimes wsX3_fallTimes ({ frames := 2 * d + 76, cells := 0, slots := 0, locals := 64 * d + 2430 }) (pWk [.ref h0, .int x1, .int x2, .long x3, .long x4] D T [(h0, .inr (2, [.ref la, .ref cl, .ref wo, .ref on, .int dy, .int mu, .int pa])), (on, .inl (T 1, 7, .inr (.inl fo))), (wo, .inr (8, [.ref la, .ref cl, .ref p0, .ref p1, .ref p4, .int n])), (la, .inr (5, [.int (l9 0), .int (l9 1), .int (l9 2), .int (l9 3), .int (l9 4), .int (l9 5), .int (l9 6)])), (cl, .inr (1, [.int n0, .ref c1, .ref c2, .ref c3, .ref c4, .ref c5, .ref c6, .ref c7])), (c1, .inl (T 0, 24, .inl f1)), (c2, .inl (T 0, 24, .inl f2)), (c3, .inl (T 0, 24, .inl f3)), (c4, .inl (T 0, 24, .inl f4)), (c5, .inl (T 0, 24, .inl f5)), (p0, .inl (T 1, 676, .inr (.inl g0))), (p1, .inl (T 1, 676, .inr (.inl g1))), (p4, .inl (T 0, 672, .inl g4))] sz ad sa av ta) (va_Qv (fun (u : (Nat → Int64) × Int32 × Int32 × (Nat → Int64) × (Nat → Int64) × (Nat → Int32)) => duT x3 x4 (fun v => falP l9 f1 f2 f3 f4 f5 (VALW l9 f1 f2 f3 f4 f5) pa d x1 x2 v ((fo, dy, mu) : duS) ((u.1, u.2.1, u.2.2.1) : duS)) ((u.1, u.2.1, u.2.2.1) : duS) ∧ stW (VALW l9 f1 f2 f3 f4 f5) n0 n (fun _ => True) g0 g1 g4 u.2.2.2.1 u.2.2.2.2.1 u.2.2.2.2.2) (bW D (va_A [(h0, .inr (2, [.ref la, .ref cl, .ref wo, .ref on, .int dy, .int mu, .int pa])), (on, .inl (T 1, 7, .inr (.inl fo))), (wo, .inr (8, [.ref la, .ref cl, .ref p0, .ref p1, .ref p4, .int n])), (la, .inr (5, [.int (l9 0), .int (l9 1), .int (l9 2), .int (l9 3), .int (l9 4), .int (l9 5), .int (l9 6)])), (cl, .inr (1, [.int n0, .ref c1, .ref c2, .ref c3, .ref c4, .ref c5, .ref c6, .ref c7])), (c1, .inl (T 0, 24, .inl f1)), (c2, .inl (T 0, 24, .inl f2)), (c3, .inl (T 0, 24, .inl f3)), (c4, .inl (T 0, 24, .inl f4)), (c5, .inl (T 0, 24, .inl f5)), (p0, .inl (T 1, 676, .inr (.inl g0))), (p1, .inl (T 1, 676, .inr (.inl g1))), (p4, .inl (T 0, 672, .inl g4))] sz) (fun (u : (Nat → Int64) × Int32 × Int32 × (Nat → Int64) × (Nat → Int64) × (Nat → Int32)) => [(h0, .inr (2, [.ref la, .ref cl, .ref wo, .ref on, .int u.2.1, .int u.2.2.1, .int pa])), (on, .inl (T 1, 7, .inr (.inl u.1))), (wo, .inr (8, [.ref la, .ref cl, .ref p0, .ref p1, .ref p4, .int n])), (la, .inr (5, [.int (l9 0), .int (l9 1), .int (l9 2), .int (l9 3), .int (l9 4), .int (l9 5), .int (l9 6)])), (cl, .inr (1, [.int n0, .ref c1, .ref c2, .ref c3, .ref c4, .ref c5, .ref c6, .ref c7])), (c1, .inl (T 0, 24, .inl f1)), (c2, .inl (T 0, 24, .inl f2)), (c3, .inl (T 0, 24, .inl f3)), (c4, .inl (T 0, 24, .inl f4)), (c5, .inl (T 0, 24, .inl f5)), (p0, .inl (T 1, 676, .inr (.inl u.2.2.2.1))), (p1, .inl (T 1, 676, .inr (.inl u.2.2.2.2.1))), (p4, .inl (T 0, 672, .inl u.2.2.2.2.2))])) (va_A [(h0, .inr (2, [.ref la, .ref cl, .ref wo, .ref on, .int dy, .int mu, .int pa])), (on, .inl (T 1, 7, .inr (.inl fo))), (wo, .inr (8, [.ref la, .ref cl, .ref p0, .ref p1, .ref p4, .int n])), (la, .inr (5, [.int (l9 0), .int (l9 1), .int (l9 2), .int (l9 3), .int (l9 4), .int (l9 5), .int (l9 6)])), (cl, .inr (1, [.int n0, .ref c1, .ref c2, .ref c3, .ref c4, .ref c5, .ref c6, .ref c7])), (c1, .inl (T 0, 24, .inl f1)), (c2, .inl (T 0, 24, .inl f2)), (c3, .inl (T 0, 24, .inl f3)), (c4, .inl (T 0, 24, .inl f4)), (c5, .inl (T 0, 24, .inl f5)), (p0, .inl (T 1, 676, .inr (.inl g0))), (p1, .inl (T 1, 676, .inr (.inl g1))), (p4, .inl (T 0, 672, .inl g4))] sz)) 0 0 (va_A [(h0, .inr (2, [.ref la, .ref cl, .ref wo, .ref on, .int dy, .int mu, .int pa])), (on, .inl (T 1, 7, .inr (.inl fo))), (wo, .inr (8, [.ref la, .ref cl, .ref p0, .ref p1, .ref p4, .int n])), (la, .inr (5, [.int (l9 0), .int (l9 1), .int (l9 2), .int (l9 3), .int (l9 4), .int (l9 5), .int (l9 6)])), (cl, .inr (1, [.int n0, .ref c1, .ref c2, .ref c3, .ref c4, .ref c5, .ref c6, .ref c7])), (c1, .inl (T 0, 24, .inl f1)), (c2, .inl (T 0, 24, .inl f2)), (c3, .inl (T 0, 24, .inl f3)), (c4, .inl (T 0, 24, .inl f4)), (c5, .inl (T 0, 24, .inl f5)), (p0, .inl (T 1, 676, .inr (.inl g0))), (p1, .inl (T 1, 676, .inr (.inl g1))), (p4, .inl (T 0, 672, .inl g4))] sz) := by
  refine Met.ofW (cc := cX3_fallTimes) (maxL := 7) (ret := none) (by decide +kernel) rfl ?_
  intro p e s m args below meth c s₁ B hml hv
  obtain ⟨rfl, hsz, hP, hE, hD0, hV⟩ := hv
  have hx := B.exec
  have hb := B.bytes
  have hr := B.returns
  have hts := atoms_spec (ws := wsX3_fallTimes) B.pre
  have hown : s.vm.findClass RX3 = some m.cls := findClass_of_methodNamed B.named
  have hlocks := B.notSynchronized
  subst hsz
  have hD := hD0.self (sz := s.heap.size)
  generalize hAe : va_A [(h0, .inr (2, [.ref la, .ref cl, .ref wo, .ref on, .int dy, .int mu, .int pa])), (on, .inl (T 1, 7, .inr (.inl fo))), (wo, .inr (8, [.ref la, .ref cl, .ref p0, .ref p1, .ref p4, .int n])), (la, .inr (5, [.int (l9 0), .int (l9 1), .int (l9 2), .int (l9 3), .int (l9 4), .int (l9 5), .int (l9 6)])), (cl, .inr (1, [.int n0, .ref c1, .ref c2, .ref c3, .ref c4, .ref c5, .ref c6, .ref c7])), (c1, .inl (T 0, 24, .inl f1)), (c2, .inl (T 0, 24, .inl f2)), (c3, .inl (T 0, 24, .inl f3)), (c4, .inl (T 0, 24, .inl f4)), (c5, .inl (T 0, 24, .inl f5)), (p0, .inl (T 1, 676, .inr (.inl g0))), (p1, .inl (T 1, 676, .inr (.inl g1))), (p4, .inl (T 0, 672, .inl g4))] s.heap.size = A at hD hV ⊢
  have hA : ∀ q : Nat, s.heap.size ≤ q → A q := fun q h => by rw [← hAe]; exact Or.inr h
  have hS : va_S A s.heap s.heap [] := va_S.rf
  have hP : va_P D vwCl [(h0, .inr (2, [.ref la, .ref cl, .ref wo, .ref on, .int dy, .int mu, .int pa])), (on, .inl (T 1, 7, .inr (.inl fo))), (wo, .inr (8, [.ref la, .ref cl, .ref p0, .ref p1, .ref p4, .int n])), (la, .inr (5, [.int (l9 0), .int (l9 1), .int (l9 2), .int (l9 3), .int (l9 4), .int (l9 5), .int (l9 6)])), (cl, .inr (1, [.int n0, .ref c1, .ref c2, .ref c3, .ref c4, .ref c5, .ref c6, .ref c7])), (c1, .inl (T 0, 24, .inl f1)), (c2, .inl (T 0, 24, .inl f2)), (c3, .inl (T 0, 24, .inl f3)), (c4, .inl (T 0, 24, .inl f4)), (c5, .inl (T 0, 24, .inl f5)), (p0, .inl (T 1, 676, .inr (.inl g0))), (p1, .inl (T 1, 676, .inr (.inl g1))), (p4, .inl (T 0, 672, .inl g4))] s.heap := hP
  have hl := lv_entry ([.ref h0, .int x1, .int x2, .long x3, .long x4]) (n := 7) (Nat.le_of_ble_eq_true rfl)
  rw [lg_entry_eq]
  generalize (lg_sl ([.ref h0, .int x1, .int x2, .long x3, .long x4]) ++ List.replicate (7 - (lg_sl ([.ref h0, .int x1, .int x2, .long x3, .long x4])).length) Slot.unset).toArray = ls at hl ⊢
  have hl : lv_has ls 7 [(0, .ref h0), (1, .int x1), (2, .int x2), (3, .long x3), (5, .long x4)] := hl
  clear hD0
  have hst : stW (VALW l9 f1 f2 f3 f4 f5) n0 n (fun _ => True) g0 g1 g4 g0 g1 g4 := stW_rf hmm
  refine lv_lload_n hx hb dX3_fallTimes_0 rfl (lv_at hl 3 rfl) ?_
  refine lv_lload hx hb dX3_fallTimes_1 (lv_at hl 4 rfl) ?_
  refine vp_callSi (W.runS (As := [.long x3, .long x4]) (rest := []) ⟨hx, hb, hml, hown, hts⟩ (c_X11_productFits l D T x3 x4) (va_cwS 2 hts gX3_fallTimes_X11_productFits rfl rfl rfl hs_X11_productFits ⟨(show _ ≤ (2 * d + 76 : Nat) from by (try dsimp only); omega), (show _ ≤ (64 * d + 2430 : Nat) from by (try dsimp only); omega)⟩) (pR_S hP hE [] rfl) rfl rfl hl.1 rfl (lv_room (Nat.le_of_ble_eq_true rfl)) dX3_fallTimes_3 ⟨Nat.le_of_ble_eq_true rfl, Nat.le_of_ble_eq_true rfl⟩) (fun r_1 hr_1 => ?_)
  rcases bool_post hr_1 with ⟨c_2, rfl⟩ | ⟨c_2, rfl⟩
  · refine lv_if_eq (tgt := 22) hx hb dX3_fallTimes_6 (by decide +kernel) (fun c9 => absurd c9 (by decide +kernel)) (fun _ => ?_)
    refine lv_aload_n hx hb dX3_fallTimes_9 rfl (lv_at hl 0 rfl) ?_
    refine lv_iload_n hx hb dX3_fallTimes_10 rfl (lv_at hl 1 rfl) ?_
    refine lv_iload_n hx hb dX3_fallTimes_11 rfl (lv_at hl 2 rfl) ?_
    refine lv_lload_n hx hb dX3_fallTimes_12 rfl (lv_at hl 3 rfl) ?_
    refine lv_lload hx hb dX3_fallTimes_13 (lv_at hl 4 rfl) ?_
    refine lv_lmul hx hb dX3_fallTimes_15 ?_
    have hFc := va_free (wc := [(h0, .inr (2, [.ref la, .ref cl, .ref wo, .ref on, .int dy, .int mu, .int pa])), (on, .inl (T 1, 7, .inr (.inl fo))), (wo, .inr (8, [.ref la, .ref cl, .ref p0, .ref p1, .ref p4, .int n])), (la, .inr (5, [.int (l9 0), .int (l9 1), .int (l9 2), .int (l9 3), .int (l9 4), .int (l9 5), .int (l9 6)])), (cl, .inr (1, [.int n0, .ref c1, .ref c2, .ref c3, .ref c4, .ref c5, .ref c6, .ref c7])), (c1, .inl (T 0, 24, .inl f1)), (c2, .inl (T 0, 24, .inl f2)), (c3, .inl (T 0, 24, .inl f3)), (c4, .inl (T 0, 24, .inl f4)), (c5, .inl (T 0, 24, .inl f5)), (p0, .inl (T 1, 676, .inr (.inl g0))), (p1, .inl (T 1, 676, .inr (.inl g1))), (p4, .inl (T 0, 672, .inl g4))]) hD hS hA [0, 1, 2, 3, 4, 5, 6, 7, 8, 9, 10, 11, 12] rfl
    refine va_callv (va_runV (As := [.int x1, .int x2, .long (x3 * x4)]) (rest := []) ⟨hx, hb, hml, hown, hts⟩ (hrec _ h0 on dy mu pa fo wo la cl p0 p1 p4 n l9 n0 c1 c2 c3 c4 c5 c6 c7 f1 f2 f3 f4 f5 g0 g1 g4 x1 x2 (x3 * x4) (by omega) (by omega) (by omega) hok (by omega) hmm hlq (by omega)) (cwV 3 hts gX3_fallTimes_X3_fall rfl rfl rfl hv_X3_fall ⟨(show _ ≤ (2 * d + 76 : Nat) from by (try dsimp only); omega), (show _ ≤ (64 * d + 2430 : Nat) from by (try dsimp only); omega)⟩) (pWk_V (q := (RX3, TX3, 7)) (ci := 2) (q0 := 0) hP hE hD hV hS hFc rfl rfl [0, 1, 2, 3, 4, 5, 6, 7, 8, 9, 10, 11, 12] (by decide +kernel) rfl rfl) rfl rfl hl.1 rfl (lv_room (Nat.le_of_ble_eq_true rfl)) dX3_fallTimes_16 ⟨Nat.le_of_ble_eq_true rfl, Nat.le_of_ble_eq_true rfl⟩) hS (fun q _ h => hFc q h) hFc (fun u_4 t H1 locs ht hvm hr_3 hB hz1 hk1 hS => ?_)
    obtain ⟨f_5, n_6, n_7, f_8, f_9, f_10⟩ := u_4
    have hsfhr_3 : stW (VALW l9 f1 f2 f3 f4 f5) n0 n (fun _ => True) g0 g1 g4 f_8 f_9 f_10 := hr_3.2
    have hst : stW (VALW l9 f1 f2 f3 f4 f5) n0 n (fun _ => True) g0 g1 g4 f_8 f_9 f_10 := hst.tr hsfhr_3 (fun _ _ => trivial)
    have hmm : memW (VALW l9 f1 f2 f3 f4 f5) n0 n f_8 f_9 f_10 := hst.1
    have hflhr_3 : falP l9 f1 f2 f3 f4 f5 (VALW l9 f1 f2 f3 f4 f5) pa d x1 x2 (x3 * x4) ((fo, dy, mu) : duS) ((f_5, n_6, n_7) : duS) := hr_3.1
    obtain ⟨hP1, hD1⟩ := hB
    rw [ht] at hP1
    obtain ⟨hP, hD⟩ := va_repl [(h0, .inr (2, [.ref la, .ref cl, .ref wo, .ref on, .int n_6, .int n_7, .int pa])), (on, .inl (T 1, 7, .inr (.inl f_5))), (wo, .inr (8, [.ref la, .ref cl, .ref p0, .ref p1, .ref p4, .int n])), (la, .inr (5, [.int (l9 0), .int (l9 1), .int (l9 2), .int (l9 3), .int (l9 4), .int (l9 5), .int (l9 6)])), (cl, .inr (1, [.int n0, .ref c1, .ref c2, .ref c3, .ref c4, .ref c5, .ref c6, .ref c7])), (c1, .inl (T 0, 24, .inl f1)), (c2, .inl (T 0, 24, .inl f2)), (c3, .inl (T 0, 24, .inl f3)), (c4, .inl (T 0, 24, .inl f4)), (c5, .inl (T 0, 24, .inl f5)), (p0, .inl (T 1, 676, .inr (.inl f_8))), (p1, .inl (T 1, 676, .inr (.inl f_9))), (p4, .inl (T 0, 672, .inl f_10))] hP hD [0, 1, 2, 3, 4, 5, 6, 7, 8, 9, 10, 11, 12] [0, 1, 2, 3, 4, 5, 6, 7, 8, 9, 10, 11, 12] rfl (by decide +kernel) rfl rfl rfl hk1 hP1
    clear hP1 hD1 hFc
    generalize H1 = H at hP hS ⊢
    refine lv_goto (tgt := 27) hx hb dX3_fallTimes_19 (by decide +kernel) ?_
    exact W.vret hx hb hr (fun t ht hW => ⟨⟨(f_5, n_6, n_7, f_8, f_9, f_10), rfl, ⟨⟨(fun _ => hflhr_3), (fun q9 => absurd (by assumption) q9)⟩, hst⟩, by rw [ht]; exact hP.sub [0, 1, 2, 3, 4, 5, 6, 7, 8, 9, 10, 11, 12] rfl, hD.sub [0, 1, 2, 3, 4, 5, 6, 7, 8, 9, 10, 11, 12] (by decide +kernel) rfl⟩, hS.F ht⟩) hS.2.2 dX3_fallTimes_27
  · refine lv_if_eq (tgt := 22) hx hb dX3_fallTimes_6 (by decide +kernel) (fun _ => ?_) (fun c9 => absurd c9 (by decide +kernel))
    refine lv_aload_n hx hb dX3_fallTimes_22 rfl (lv_at hl 0 rfl) ?_
    refine lv_iconst (v := 1) hx hb dX3_fallTimes_23 (by decide +kernel) ?_
    refine va_put (D := D) (ci := 2) (v := .int 1) (ty := .boolean) (C := RX3) (T := TX3) (N := 7) hx hb hts in_X3_fallTimes_X3 tyX3 tyX3_ok nmX3 hown hE.1 hP hD hS 0 rfl rfl 5 (by decide +kernel) (hts (.fieldLink RX3 19 "ClauseBook$Falling" "much" "Z") (List.mem_of_getElem? (i := 1) rfl)) (fun _ h9 => h9) rfl (by decide +kernel) rfl rfl (Nat.le_of_ble_eq_true rfl) dX3_fallTimes_24 (fun H locs hP hD hS => ?_)
    obtain ⟨hP, hD⟩ := wPD [(h0, .inr (2, [.ref la, .ref cl, .ref wo, .ref on, .int dy, .int 1, .int pa])), (on, .inl (T 1, 7, .inr (.inl fo))), (wo, .inr (8, [.ref la, .ref cl, .ref p0, .ref p1, .ref p4, .int n])), (la, .inr (5, [.int (l9 0), .int (l9 1), .int (l9 2), .int (l9 3), .int (l9 4), .int (l9 5), .int (l9 6)])), (cl, .inr (1, [.int n0, .ref c1, .ref c2, .ref c3, .ref c4, .ref c5, .ref c6, .ref c7])), (c1, .inl (T 0, 24, .inl f1)), (c2, .inl (T 0, 24, .inl f2)), (c3, .inl (T 0, 24, .inl f3)), (c4, .inl (T 0, 24, .inl f4)), (c5, .inl (T 0, 24, .inl f5)), (p0, .inl (T 1, 676, .inr (.inl g0))), (p1, .inl (T 1, 676, .inr (.inl g1))), (p4, .inl (T 0, 672, .inl g4))] hP hD rfl
    exact W.vret hx hb hr (fun t ht hW => ⟨⟨(fo, dy, 1, g0, g1, g4), rfl, ⟨⟨(fun q9 => absurd q9 (by assumption)), (fun _ => (show ¬ (1 : Int32).toInt = 0 from by decide))⟩, hst⟩, by rw [ht]; exact hP.sub [0, 1, 2, 3, 4, 5, 6, 7, 8, 9, 10, 11, 12] rfl, hD.sub [0, 1, 2, 3, 4, 5, 6, 7, 8, 9, 10, 11, 12] (by decide +kernel) rfl⟩, hS.F ht⟩) hS.2.2 dX3_fallTimes_27
theorem dX3_fall_0 : decode cX3_fall 0 = .ok (.aload_n 0, 1) := by decide +kernel
theorem dX3_fall_1 : decode cX3_fall 1 = .ok (.getfield 19, 3) := by decide +kernel
theorem dX3_fall_101 : decode cX3_fall 101 = .ok (.goto 195, 3) := by decide +kernel
theorem dX3_fall_104 : decode cX3_fall 104 = .ok (.aload_n 0, 1) := by decide +kernel
theorem dX3_fall_105 : decode cX3_fall 105 = .ok (.iload 5, 2) := by decide +kernel
theorem dX3_fall_107 : decode cX3_fall 107 = .ok (.iload_n 2, 1) := by decide +kernel
theorem dX3_fall_108 : decode cX3_fall 108 = .ok (.lload_n 3, 1) := by decide +kernel
theorem dX3_fall_109 : decode cX3_fall 109 = .ok (.ldc2_w 73, 3) := by decide +kernel
theorem dX3_fall_112 : decode cX3_fall 112 = .ok (.invokevirtual 75, 3) := by decide +kernel
theorem dX3_fall_115 : decode cX3_fall 115 = .ok (.goto 181, 3) := by decide +kernel
theorem dX3_fall_118 : decode cX3_fall 118 = .ok (.aload_n 0, 1) := by decide +kernel
theorem dX3_fall_119 : decode cX3_fall 119 = .ok (.iload 5, 2) := by decide +kernel
theorem dX3_fall_12 : decode cX3_fall 12 = .ok (.getfield 48, 3) := by decide +kernel
theorem dX3_fall_121 : decode cX3_fall 121 = .ok (.iload_n 2, 1) := by decide +kernel
theorem dX3_fall_122 : decode cX3_fall 122 = .ok (.lload_n 3, 1) := by decide +kernel
theorem dX3_fall_123 : decode cX3_fall 123 = .ok (.aload_n 0, 1) := by decide +kernel
theorem dX3_fall_124 : decode cX3_fall 124 = .ok (.getfield 30, 3) := by decide +kernel
theorem dX3_fall_127 : decode cX3_fall 127 = .ok (.getfield 79, 3) := by decide +kernel
theorem dX3_fall_130 : decode cX3_fall 130 = .ok (.iload_n 1, 1) := by decide +kernel
theorem dX3_fall_131 : decode cX3_fall 131 = .ok (.iaload, 1) := by decide +kernel
theorem dX3_fall_132 : decode cX3_fall 132 = .ok (.i2l, 1) := by decide +kernel
theorem dX3_fall_133 : decode cX3_fall 133 = .ok (.invokevirtual 75, 3) := by decide +kernel
theorem dX3_fall_136 : decode cX3_fall 136 = .ok (.goto 160, 3) := by decide +kernel
theorem dX3_fall_139 : decode cX3_fall 139 = .ok (.aload_n 0, 1) := by decide +kernel
theorem dX3_fall_140 : decode cX3_fall 140 = .ok (.iload 5, 2) := by decide +kernel
theorem dX3_fall_142 : decode cX3_fall 142 = .ok (.iload_n 2, 1) := by decide +kernel
theorem dX3_fall_143 : decode cX3_fall 143 = .ok (.lload_n 3, 1) := by decide +kernel
theorem dX3_fall_144 : decode cX3_fall 144 = .ok (.aload_n 0, 1) := by decide +kernel
theorem dX3_fall_145 : decode cX3_fall 145 = .ok (.getfield 26, 3) := by decide +kernel
theorem dX3_fall_148 : decode cX3_fall 148 = .ok (.iload_n 2, 1) := by decide +kernel
theorem dX3_fall_149 : decode cX3_fall 149 = .ok (.aload_n 0, 1) := by decide +kernel
theorem dX3_fall_15 : decode cX3_fall 15 = .ok (.iload_n 1, 1) := by decide +kernel
theorem dX3_fall_150 : decode cX3_fall 150 = .ok (.getfield 23, 3) := by decide +kernel
theorem dX3_fall_153 : decode cX3_fall 153 = .ok (.iload_n 2, 1) := by decide +kernel
theorem dX3_fall_154 : decode cX3_fall 154 = .ok (.invokestatic 82, 3) := by decide +kernel
theorem dX3_fall_157 : decode cX3_fall 157 = .ok (.invokevirtual 88, 3) := by decide +kernel
theorem dX3_fall_16 : decode cX3_fall 16 = .ok (.iaload, 1) := by decide +kernel
theorem dX3_fall_160 : decode cX3_fall 160 = .ok (.i2l, 1) := by decide +kernel
theorem dX3_fall_161 : decode cX3_fall 161 = .ok (.invokevirtual 75, 3) := by decide +kernel
theorem dX3_fall_164 : decode cX3_fall 164 = .ok (.goto 132, 3) := by decide +kernel
theorem dX3_fall_167 : decode cX3_fall 167 = .ok (.aload_n 0, 1) := by decide +kernel
theorem dX3_fall_168 : decode cX3_fall 168 = .ok (.iload 5, 2) := by decide +kernel
theorem dX3_fall_17 : decode cX3_fall 17 = .ok (.if_icmp .le 4, 3) := by decide +kernel
theorem dX3_fall_170 : decode cX3_fall 170 = .ok (.aload_n 0, 1) := by decide +kernel
theorem dX3_fall_171 : decode cX3_fall 171 = .ok (.getfield 30, 3) := by decide +kernel
theorem dX3_fall_174 : decode cX3_fall 174 = .ok (.getfield 48, 3) := by decide +kernel
theorem dX3_fall_177 : decode cX3_fall 177 = .ok (.iload_n 1, 1) := by decide +kernel
theorem dX3_fall_178 : decode cX3_fall 178 = .ok (.iaload, 1) := by decide +kernel
theorem dX3_fall_179 : decode cX3_fall 179 = .ok (.lload_n 3, 1) := by decide +kernel
theorem dX3_fall_180 : decode cX3_fall 180 = .ok (.invokevirtual 44, 3) := by decide +kernel
theorem dX3_fall_183 : decode cX3_fall 183 = .ok (.goto 113, 3) := by decide +kernel
theorem dX3_fall_186 : decode cX3_fall 186 = .ok (.aload_n 0, 1) := by decide +kernel
theorem dX3_fall_187 : decode cX3_fall 187 = .ok (.iload 5, 2) := by decide +kernel
theorem dX3_fall_189 : decode cX3_fall 189 = .ok (.iload_n 2, 1) := by decide +kernel
theorem dX3_fall_190 : decode cX3_fall 190 = .ok (.lload_n 3, 1) := by decide +kernel
theorem dX3_fall_191 : decode cX3_fall 191 = .ok (.invokevirtual 44, 3) := by decide +kernel
theorem dX3_fall_194 : decode cX3_fall 194 = .ok (.aload_n 0, 1) := by decide +kernel
theorem dX3_fall_195 : decode cX3_fall 195 = .ok (.aload_n 0, 1) := by decide +kernel
theorem dX3_fall_196 : decode cX3_fall 196 = .ok (.getfield 30, 3) := by decide +kernel
theorem dX3_fall_199 : decode cX3_fall 199 = .ok (.getfield 91, 3) := by decide +kernel
theorem dX3_fall_20 : decode cX3_fall 20 = .ok (.return_, 1) := by decide +kernel
theorem dX3_fall_202 : decode cX3_fall 202 = .ok (.iload_n 1, 1) := by decide +kernel
theorem dX3_fall_203 : decode cX3_fall 203 = .ok (.iaload, 1) := by decide +kernel
theorem dX3_fall_204 : decode cX3_fall 204 = .ok (.iload_n 2, 1) := by decide +kernel
theorem dX3_fall_205 : decode cX3_fall 205 = .ok (.lload_n 3, 1) := by decide +kernel
theorem dX3_fall_206 : decode cX3_fall 206 = .ok (.invokevirtual 44, 3) := by decide +kernel
theorem dX3_fall_209 : decode cX3_fall 209 = .ok (.goto 87, 3) := by decide +kernel
theorem dX3_fall_21 : decode cX3_fall 21 = .ok (.aload_n 0, 1) := by decide +kernel
theorem dX3_fall_212 : decode cX3_fall 212 = .ok (.aload_n 0, 1) := by decide +kernel
theorem dX3_fall_213 : decode cX3_fall 213 = .ok (.getfield 34, 3) := by decide +kernel
theorem dX3_fall_216 : decode cX3_fall 216 = .ok (.iload_n 1, 1) := by decide +kernel
theorem dX3_fall_217 : decode cX3_fall 217 = .ok (.iload_n 2, 1) := by decide +kernel
theorem dX3_fall_218 : decode cX3_fall 218 = .ok (.aload_n 0, 1) := by decide +kernel
theorem dX3_fall_219 : decode cX3_fall 219 = .ok (.getfield 23, 3) := by decide +kernel
theorem dX3_fall_22 : decode cX3_fall 22 = .ok (.getfield 30, 3) := by decide +kernel
theorem dX3_fall_222 : decode cX3_fall 222 = .ok (.invokevirtual 94, 3) := by decide +kernel
theorem dX3_fall_225 : decode cX3_fall 225 = .ok (.istore 6, 2) := by decide +kernel
theorem dX3_fall_227 : decode cX3_fall 227 = .ok (.iload 6, 2) := by decide +kernel
theorem dX3_fall_229 : decode cX3_fall 229 = .ok (.bipush (-5), 2) := by decide +kernel
theorem dX3_fall_231 : decode cX3_fall 231 = .ok (.if_icmp .ne 11, 3) := by decide +kernel
theorem dX3_fall_234 : decode cX3_fall 234 = .ok (.aload_n 0, 1) := by decide +kernel
theorem dX3_fall_235 : decode cX3_fall 235 = .ok (.iconst 1, 1) := by decide +kernel
theorem dX3_fall_236 : decode cX3_fall 236 = .ok (.putfield 19, 3) := by decide +kernel
theorem dX3_fall_239 : decode cX3_fall 239 = .ok (.goto 57, 3) := by decide +kernel
theorem dX3_fall_242 : decode cX3_fall 242 = .ok (.aload_n 0, 1) := by decide +kernel
theorem dX3_fall_243 : decode cX3_fall 243 = .ok (.iload 5, 2) := by decide +kernel
theorem dX3_fall_245 : decode cX3_fall 245 = .ok (.iload 6, 2) := by decide +kernel
theorem dX3_fall_247 : decode cX3_fall 247 = .ok (.lload_n 3, 1) := by decide +kernel
theorem dX3_fall_248 : decode cX3_fall 248 = .ok (.invokevirtual 44, 3) := by decide +kernel
theorem dX3_fall_25 : decode cX3_fall 25 = .ok (.getfield 51, 3) := by decide +kernel
theorem dX3_fall_251 : decode cX3_fall 251 = .ok (.goto 45, 3) := by decide +kernel
theorem dX3_fall_254 : decode cX3_fall 254 = .ok (.aload_n 0, 1) := by decide +kernel
theorem dX3_fall_255 : decode cX3_fall 255 = .ok (.getfield 34, 3) := by decide +kernel
theorem dX3_fall_258 : decode cX3_fall 258 = .ok (.iload_n 1, 1) := by decide +kernel
theorem dX3_fall_259 : decode cX3_fall 259 = .ok (.iload_n 2, 1) := by decide +kernel
theorem dX3_fall_260 : decode cX3_fall 260 = .ok (.aload_n 0, 1) := by decide +kernel
theorem dX3_fall_261 : decode cX3_fall 261 = .ok (.getfield 23, 3) := by decide +kernel
theorem dX3_fall_264 : decode cX3_fall 264 = .ok (.iload_n 2, 1) := by decide +kernel
theorem dX3_fall_265 : decode cX3_fall 265 = .ok (.invokestatic 82, 3) := by decide +kernel
theorem dX3_fall_268 : decode cX3_fall 268 = .ok (.invokevirtual 100, 3) := by decide +kernel
theorem dX3_fall_271 : decode cX3_fall 271 = .ok (.istore 7, 2) := by decide +kernel
theorem dX3_fall_273 : decode cX3_fall 273 = .ok (.iload 7, 2) := by decide +kernel
theorem dX3_fall_275 : decode cX3_fall 275 = .ok (.bipush (-5), 2) := by decide +kernel
theorem dX3_fall_277 : decode cX3_fall 277 = .ok (.if_icmp .ne 11, 3) := by decide +kernel
theorem dX3_fall_28 : decode cX3_fall 28 = .ok (.iload_n 1, 1) := by decide +kernel
theorem dX3_fall_280 : decode cX3_fall 280 = .ok (.aload_n 0, 1) := by decide +kernel
theorem dX3_fall_281 : decode cX3_fall 281 = .ok (.iconst 1, 1) := by decide +kernel
theorem dX3_fall_282 : decode cX3_fall 282 = .ok (.putfield 19, 3) := by decide +kernel
theorem dX3_fall_285 : decode cX3_fall 285 = .ok (.goto 11, 3) := by decide +kernel
theorem dX3_fall_288 : decode cX3_fall 288 = .ok (.aload_n 0, 1) := by decide +kernel
theorem dX3_fall_289 : decode cX3_fall 289 = .ok (.iload 7, 2) := by decide +kernel
theorem dX3_fall_29 : decode cX3_fall 29 = .ok (.iaload, 1) := by decide +kernel
theorem dX3_fall_291 : decode cX3_fall 291 = .ok (.iload_n 2, 1) := by decide +kernel
theorem dX3_fall_292 : decode cX3_fall 292 = .ok (.lload_n 3, 1) := by decide +kernel
theorem dX3_fall_293 : decode cX3_fall 293 = .ok (.invokevirtual 44, 3) := by decide +kernel
theorem dX3_fall_296 : decode cX3_fall 296 = .ok (.return_, 1) := by decide +kernel
theorem dX3_fall_30 : decode cX3_fall 30 = .ok (.istore 5, 2) := by decide +kernel
theorem dX3_fall_32 : decode cX3_fall 32 = .ok (.getstatic 54, 3) := by decide +kernel
theorem dX3_fall_35 : decode cX3_fall 35 = .ok (.aload_n 0, 1) := by decide +kernel
theorem dX3_fall_36 : decode cX3_fall 36 = .ok (.getfield 30, 3) := by decide +kernel
theorem dX3_fall_39 : decode cX3_fall 39 = .ok (.iload_n 1, 1) := by decide +kernel
theorem dX3_fall_4 : decode cX3_fall 4 = .ok (.ifCond .ne 16, 3) := by decide +kernel
theorem dX3_fall_40 : decode cX3_fall 40 = .ok (.invokevirtual 59, 3) := by decide +kernel
theorem dX3_fall_43 : decode cX3_fall 43 = .ok (.invokevirtual 63, 3) := by decide +kernel
theorem dX3_fall_46 : decode cX3_fall 46 = .ok (.iaload, 1) := by decide +kernel
theorem dX3_fall_47 : decode cX3_fall 47 = .ok (.tableswitch 207 1 8 #[45, 48, 57, 71, 92, 139, 120, 165], 45) := by decide +kernel
theorem dX3_fall_7 : decode cX3_fall 7 = .ok (.iload_n 2, 1) := by decide +kernel
theorem dX3_fall_8 : decode cX3_fall 8 = .ok (.aload_n 0, 1) := by decide +kernel
theorem dX3_fall_9 : decode cX3_fall 9 = .ok (.getfield 30, 3) := by decide +kernel
theorem dX3_fall_92 : decode cX3_fall 92 = .ok (.goto 204, 3) := by decide +kernel
theorem dX3_fall_95 : decode cX3_fall 95 = .ok (.aload_n 0, 1) := by decide +kernel
theorem dX3_fall_96 : decode cX3_fall 96 = .ok (.iload_n 2, 1) := by decide +kernel
theorem dX3_fall_97 : decode cX3_fall 97 = .ok (.lload_n 3, 1) := by decide +kernel
theorem dX3_fall_98 : decode cX3_fall 98 = .ok (.invokevirtual 69, 3) := by decide +kernel
set_option maxRecDepth 20000 in
theorem ggX3_fall_Jx29ce0_ordinal_8abf5 : GoodIn wsX3_fall wsJx29ce0_ordinal_8abf5 := goodIn_r _ [23, 24] rfl (by decide +kernel)
set_option maxRecDepth 40000 in
theorem ggX3_fall_X11_picked_0 : GoodIn wsX3_fall [.code yX11_picked cX11_picked 10 (some .int)] := goodIn_r _ [145] rfl (by decide +kernel)
set_option maxRecDepth 40000 in
theorem ggX3_fall_X11_picked_1 : GoodIn wsX3_fall wsX11_picked_r1 := goodIn_r _ [64, 65, 79, 146, 147, 78, 77, 66, 148, 149, 81, 13, 14, 15, 16, 17, 105, 51, 52, 41, 53, 54, 55, 56] rfl (by decide +kernel)
set_option maxRecDepth 40000 in
theorem ggX3_fall_X11_picked_2 : GoodIn wsX3_fall wsX11_picked_r2 := goodIn_r _ [68, 69, 70, 34, 122, 123, 124, 125, 88, 126, 127, 128, 129, 87, 130, 131, 132, 133, 134, 135, 136, 140, 141, 142] rfl (by decide +kernel)
set_option maxRecDepth 40000 in
theorem ggX3_fall_X11_picked_3 : GoodIn wsX3_fall wsX11_picked_r3 := goodIn_r _ [143, 144, 89, 90, 91, 92, 93, 94, 95, 76, 96, 83, 84, 85, 86, 97, 98, 99, 100, 101, 102, 103, 104, 106] rfl (by decide +kernel)
set_option maxRecDepth 40000 in
theorem ggX3_fall_X11_picked_4 : GoodIn wsX3_fall wsX11_picked_r4 := goodIn_r _ [107, 108, 109, 110, 33, 35, 71, 72, 73, 74, 75, 80, 82, 19, 20, 21, 22, 23, 24, 111, 112, 113, 114, 115] rfl (by decide +kernel)
set_option maxRecDepth 40000 in
theorem ggX3_fall_X11_picked_5 : GoodIn wsX3_fall wsX11_picked_r5 := goodIn_r _ [116, 117, 118, 119, 120, 121, 137, 138, 139] rfl (by decide +kernel)
set_option maxRecDepth 40000 in
theorem ggX3_fall_X11_picked_6 : GoodIn wsX3_fall wsX110 := goodIn_r _ [175, 176, 177, 178, 179, 180] rfl (by decide +kernel)
set_option maxRecDepth 40000 in
theorem ggX3_fall_X11_picked_7 : GoodIn wsX3_fall wsX80 := goodIn_r _ [168, 169, 170, 171, 172, 173, 174] rfl (by decide +kernel)
set_option maxRecDepth 40000 in
theorem ggX3_fall_X11_picked_8 : GoodIn wsX3_fall wsX20 := goodIn_r _ [160, 161, 162, 163, 164, 165, 166, 167] rfl (by decide +kernel)
set_option maxRecDepth 40000 in
theorem ggX3_fall_X11_picked : GoodIn wsX3_fall wsX11_picked := (goodIn_app ggX3_fall_X11_picked_0 (goodIn_app (goodIn_app (goodIn_app (goodIn_app ggX3_fall_X11_picked_1 (goodIn_app ggX3_fall_X11_picked_2 (goodIn_app ggX3_fall_X11_picked_3 (goodIn_app ggX3_fall_X11_picked_4 ggX3_fall_X11_picked_5)))) ggX3_fall_X11_picked_6) ggX3_fall_X11_picked_7) ggX3_fall_X11_picked_8))
set_option maxRecDepth 40000 in
theorem ggX3_fall_X11_takenOn_0 : GoodIn wsX3_fall [.code yX11_takenOn cX11_takenOn 9 (some .int)] := goodIn_r _ [63] rfl (by decide +kernel)
set_option maxRecDepth 40000 in
theorem ggX3_fall_X11_takenOn_1 : GoodIn wsX3_fall wsX11_takenOn_r1 := goodIn_r _ [64, 65, 66, 67, 40, 41, 42, 43, 44, 45, 46, 47, 48, 49, 68, 69, 70, 34, 71, 72, 73, 74, 75, 76] rfl (by decide +kernel)
set_option maxRecDepth 40000 in
theorem ggX3_fall_X11_takenOn_2 : GoodIn wsX3_fall wsX11_takenOn_r2 := goodIn_r _ [77, 78, 79, 80, 81, 13, 14, 15, 16, 17, 82, 19, 20, 21, 22, 23, 24, 83, 84, 85, 86, 87, 88, 89] rfl (by decide +kernel)
set_option maxRecDepth 40000 in
theorem ggX3_fall_X11_takenOn_3 : GoodIn wsX3_fall wsX11_takenOn_r3 := goodIn_r _ [90, 91, 92, 93, 94, 95, 96, 97, 98, 99, 100, 101, 102, 103, 104, 105, 51, 52, 53, 54, 55, 56, 106, 107] rfl (by decide +kernel)
set_option maxRecDepth 40000 in
theorem ggX3_fall_X11_takenOn_4 : GoodIn wsX3_fall wsX11_takenOn_r4 := goodIn_r _ [108, 109, 110, 33, 35, 111, 112, 113, 114, 115, 116, 117, 118, 119, 120, 121, 122, 123, 124, 125, 126, 127, 128, 129] rfl (by decide +kernel)
set_option maxRecDepth 40000 in
theorem ggX3_fall_X11_takenOn_5 : GoodIn wsX3_fall wsX11_takenOn_r5 := goodIn_r _ [130, 131, 132, 133, 134, 135, 136, 137, 138, 139, 140, 141, 142, 143, 144, 145, 146, 147, 148, 149] rfl (by decide +kernel)
set_option maxRecDepth 40000 in
theorem ggX3_fall_X11_takenOn_6 : GoodIn wsX3_fall wsX110 := goodIn_r _ [175, 176, 177, 178, 179, 180] rfl (by decide +kernel)
set_option maxRecDepth 40000 in
theorem ggX3_fall_X11_takenOn_7 : GoodIn wsX3_fall wsX20 := goodIn_r _ [160, 161, 162, 163, 164, 165, 166, 167] rfl (by decide +kernel)
set_option maxRecDepth 40000 in
theorem ggX3_fall_X11_takenOn_8 : GoodIn wsX3_fall wsX80 := goodIn_r _ [168, 169, 170, 171, 172, 173, 174] rfl (by decide +kernel)
set_option maxRecDepth 40000 in
theorem ggX3_fall_X11_takenOn : GoodIn wsX3_fall wsX11_takenOn := (goodIn_app ggX3_fall_X11_takenOn_0 (goodIn_app (goodIn_app (goodIn_app (goodIn_app ggX3_fall_X11_takenOn_1 (goodIn_app ggX3_fall_X11_takenOn_2 (goodIn_app ggX3_fall_X11_takenOn_3 (goodIn_app ggX3_fall_X11_takenOn_4 ggX3_fall_X11_takenOn_5)))) ggX3_fall_X11_takenOn_6) ggX3_fall_X11_takenOn_7) ggX3_fall_X11_takenOn_8))
set_option maxRecDepth 20000 in
theorem ggX3_fall_X2_kindOf : GoodIn wsX3_fall wsX2_kindOf := goodIn_r _ [16, 17, 160, 161, 162, 163, 164, 165, 166, 167] rfl (by decide +kernel)
set_option maxRecDepth 20000 in
theorem ggX3_fall_X3_enter : GoodIn wsX3_fall wsX3_enter := goodIn_r _ [29, 30, 31, 1, 32, 33, 34, 35, 153, 154, 155, 156, 157, 158, 159] rfl (by decide +kernel)
set_option maxRecDepth 40000 in
theorem ggX3_fall_X3_fall_0 : GoodIn wsX3_fall [.code yX3_fall cX3_fall 8 none] := goodIn_r _ [0] rfl (by decide +kernel)
set_option maxRecDepth 40000 in
theorem ggX3_fall_X3_fall_1 : GoodIn wsX3_fall wsX3_fall_r1 := goodIn_r _ [1, 2, 3, 4, 5, 6, 7, 8, 9, 10, 11, 12, 13, 14, 15, 16, 17, 18, 19, 20, 21, 22, 23, 24] rfl (by decide +kernel)
set_option maxRecDepth 40000 in
theorem ggX3_fall_X3_fall_2 : GoodIn wsX3_fall wsX3_fall_r2 := goodIn_r _ [25, 26, 27, 28, 29, 30, 31, 32, 33, 34, 35, 36, 37, 38, 39, 40, 41, 42, 43, 44, 45, 46, 47, 48] rfl (by decide +kernel)
set_option maxRecDepth 40000 in
theorem ggX3_fall_X3_fall_3 : GoodIn wsX3_fall wsX3_fall_r3 := goodIn_r _ [49, 50, 51, 52, 53, 54, 55, 56, 57, 58, 59, 60, 61, 62, 63, 64, 65, 66, 67, 68, 69, 70, 71, 72] rfl (by decide +kernel)
set_option maxRecDepth 40000 in
theorem ggX3_fall_X3_fall_4 : GoodIn wsX3_fall wsX3_fall_r4 := goodIn_r _ [73, 74, 75, 76, 77, 78, 79, 80, 81, 82, 83, 84, 85, 86, 87, 88, 89, 90, 91, 92, 93, 94, 95, 96] rfl (by decide +kernel)
set_option maxRecDepth 40000 in
theorem ggX3_fall_X3_fall_5 : GoodIn wsX3_fall wsX3_fall_r5 := goodIn_r _ [97, 98, 99, 100, 101, 102, 103, 104, 105, 106, 107, 108, 109, 110, 111, 112, 113, 114, 115, 116, 117, 118, 119, 120] rfl (by decide +kernel)
set_option maxRecDepth 40000 in
theorem ggX3_fall_X3_fall_6 : GoodIn wsX3_fall wsX3_fall_r6 := goodIn_r _ [121, 122, 123, 124, 125, 126, 127, 128, 129, 130, 131, 132, 133, 134, 135, 136, 137, 138, 139, 140, 141, 142, 143, 144] rfl (by decide +kernel)
set_option maxRecDepth 40000 in
theorem ggX3_fall_X3_fall_7 : GoodIn wsX3_fall wsX3_fall_r7 := goodIn_r _ [145, 146, 147, 148, 149, 150, 151, 152] rfl (by decide +kernel)
set_option maxRecDepth 40000 in
theorem ggX3_fall_X3_fall_8 : GoodIn wsX3_fall wsX30 := goodIn_r _ [153, 154, 155, 156, 157, 158, 159] rfl (by decide +kernel)
set_option maxRecDepth 40000 in
theorem ggX3_fall_X3_fall_9 : GoodIn wsX3_fall wsX20 := goodIn_r _ [160, 161, 162, 163, 164, 165, 166, 167] rfl (by decide +kernel)
set_option maxRecDepth 40000 in
theorem ggX3_fall_X3_fall_10 : GoodIn wsX3_fall wsX80 := goodIn_r _ [168, 169, 170, 171, 172, 173, 174] rfl (by decide +kernel)
set_option maxRecDepth 40000 in
theorem ggX3_fall_X3_fall_11 : GoodIn wsX3_fall wsX110 := goodIn_r _ [175, 176, 177, 178, 179, 180] rfl (by decide +kernel)
set_option maxRecDepth 40000 in
theorem ggX3_fall_X3_fall : GoodIn wsX3_fall wsX3_fall := (goodIn_app ggX3_fall_X3_fall_0 (goodIn_app (goodIn_app (goodIn_app (goodIn_app (goodIn_app ggX3_fall_X3_fall_1 (goodIn_app ggX3_fall_X3_fall_2 (goodIn_app ggX3_fall_X3_fall_3 (goodIn_app ggX3_fall_X3_fall_4 (goodIn_app ggX3_fall_X3_fall_5 (goodIn_app ggX3_fall_X3_fall_6 ggX3_fall_X3_fall_7)))))) ggX3_fall_X3_fall_8) ggX3_fall_X3_fall_9) ggX3_fall_X3_fall_10) ggX3_fall_X3_fall_11))
set_option maxRecDepth 40000 in
theorem ggX3_fall_X3_fallTimes_0 : GoodIn wsX3_fall [.code yX3_fallTimes cX3_fallTimes 7 none] := goodIn_r _ [151] rfl (by decide +kernel)
set_option maxRecDepth 40000 in
theorem ggX3_fall_X3_fallTimes_1 : GoodIn wsX3_fall wsX3_fallTimes_r1 := goodIn_r _ [1, 152, 94, 34, 95, 76, 96, 57, 58, 59, 28, 0, 2, 3, 4, 5, 6, 7, 8, 9, 10, 11, 12, 13] rfl (by decide +kernel)
set_option maxRecDepth 40000 in
theorem ggX3_fall_X3_fallTimes_2 : GoodIn wsX3_fall wsX3_fallTimes_r2 := goodIn_r _ [14, 15, 16, 17, 18, 19, 20, 21, 22, 23, 24, 25, 26, 27, 29, 30, 31, 32, 33, 35, 36, 37, 38, 39] rfl (by decide +kernel)
set_option maxRecDepth 40000 in
theorem ggX3_fall_X3_fallTimes_3 : GoodIn wsX3_fall wsX3_fallTimes_r3 := goodIn_r _ [40, 41, 42, 43, 44, 45, 46, 47, 48, 49, 50, 51, 52, 53, 54, 55, 56, 60, 61, 62, 63, 64, 65, 66] rfl (by decide +kernel)
set_option maxRecDepth 40000 in
theorem ggX3_fall_X3_fallTimes_4 : GoodIn wsX3_fall wsX3_fallTimes_r4 := goodIn_r _ [67, 68, 69, 70, 71, 72, 73, 74, 75, 77, 78, 79, 80, 81, 82, 83, 84, 85, 86, 87, 88, 89, 90, 91] rfl (by decide +kernel)
set_option maxRecDepth 40000 in
theorem ggX3_fall_X3_fallTimes_5 : GoodIn wsX3_fall wsX3_fallTimes_r5 := goodIn_r _ [92, 93, 97, 98, 99, 100, 101, 102, 103, 104, 105, 106, 107, 108, 109, 110, 111, 112, 113, 114, 115, 116, 117, 118] rfl (by decide +kernel)
set_option maxRecDepth 40000 in
theorem ggX3_fall_X3_fallTimes_6 : GoodIn wsX3_fall wsX3_fallTimes_r6 := goodIn_r _ [119, 120, 121, 122, 123, 124, 125, 126, 127, 128, 129, 130, 131, 132, 133, 134, 135, 136, 137, 138, 139, 140, 141, 142] rfl (by decide +kernel)
set_option maxRecDepth 40000 in
theorem ggX3_fall_X3_fallTimes_7 : GoodIn wsX3_fall wsX3_fallTimes_r7 := goodIn_r _ [143, 144, 145, 146, 147, 148, 149, 150] rfl (by decide +kernel)
set_option maxRecDepth 40000 in
theorem ggX3_fall_X3_fallTimes_8 : GoodIn wsX3_fall wsX30 := goodIn_r _ [153, 154, 155, 156, 157, 158, 159] rfl (by decide +kernel)
set_option maxRecDepth 40000 in
theorem ggX3_fall_X3_fallTimes_9 : GoodIn wsX3_fall wsX20 := goodIn_r _ [160, 161, 162, 163, 164, 165, 166, 167] rfl (by decide +kernel)
set_option maxRecDepth 40000 in
theorem ggX3_fall_X3_fallTimes_10 : GoodIn wsX3_fall wsX80 := goodIn_r _ [168, 169, 170, 171, 172, 173, 174] rfl (by decide +kernel)
set_option maxRecDepth 40000 in
theorem ggX3_fall_X3_fallTimes_11 : GoodIn wsX3_fall wsX110 := goodIn_r _ [175, 176, 177, 178, 179, 180] rfl (by decide +kernel)
set_option maxRecDepth 40000 in
theorem ggX3_fall_X3_fallTimes : GoodIn wsX3_fall wsX3_fallTimes := (goodIn_app ggX3_fall_X3_fallTimes_0 (goodIn_app (goodIn_app (goodIn_app (goodIn_app (goodIn_app ggX3_fall_X3_fallTimes_1 (goodIn_app ggX3_fall_X3_fallTimes_2 (goodIn_app ggX3_fall_X3_fallTimes_3 (goodIn_app ggX3_fall_X3_fallTimes_4 (goodIn_app ggX3_fall_X3_fallTimes_5 (goodIn_app ggX3_fall_X3_fallTimes_6 ggX3_fall_X3_fallTimes_7)))))) ggX3_fall_X3_fallTimes_8) ggX3_fall_X3_fallTimes_9) ggX3_fall_X3_fallTimes_10) ggX3_fall_X3_fallTimes_11))
set_option maxRecDepth 20000 in
theorem ggX3_fall_X8_priceAt : GoodIn wsX3_fall wsX8_priceAt := goodIn_r _ [53, 54, 55, 56, 168, 169, 170, 171, 172, 173, 174] rfl (by decide +kernel)
set_option maxRecDepth 20000 in
theorem ggX3_fall_X8_spotOn : GoodIn wsX3_fall wsX8_spotOn := goodIn_r _ [42, 43, 44, 45, 46, 47, 48, 49] rfl (by decide +kernel)
set_option maxRecDepth 20000 in
theorem gX3_fall_Jx29ce0_ordinal_8abf5_u63X7 : GoodIn wsX3_fall (va_wsU RX3 63 RX7 "java/lang/Enum" ⟨"ClauseBook$Kind", "ordinal", "()I"⟩ yJx29ce0_ordinal_8abf5 wsJx29ce0_ordinal_8abf5) := goodIn_app (goodIn_of _ (by decide +kernel)) ggX3_fall_Jx29ce0_ordinal_8abf5
set_option maxRecDepth 20000 in
theorem gX3_fall_X11_picked : GoodIn wsX3_fall (wsV RX3 100 RX11 yX11_picked wsX11_picked) := goodIn_app (goodIn_r _ [150, 138, 139, 34] rfl (by decide +kernel)) ggX3_fall_X11_picked
set_option maxRecDepth 20000 in
theorem gX3_fall_X11_takenOn : GoodIn wsX3_fall (wsV RX3 94 RX11 yX11_takenOn wsX11_takenOn) := goodIn_app (goodIn_r _ [60, 61, 62, 34] rfl (by decide +kernel)) ggX3_fall_X11_takenOn
set_option maxRecDepth 20000 in
theorem gX3_fall_X2_kindOf : GoodIn wsX3_fall (wsV RX3 59 RX2 yX2_kindOf wsX2_kindOf) := goodIn_app (goodIn_r _ [12, 13, 14, 15] rfl (by decide +kernel)) ggX3_fall_X2_kindOf
set_option maxRecDepth 20000 in
theorem gX3_fall_X3_enter : GoodIn wsX3_fall (wsV RX3 69 RX3 yX3_enter wsX3_enter) := goodIn_app (goodIn_r _ [25, 26, 27, 28] rfl (by decide +kernel)) ggX3_fall_X3_enter
set_option maxRecDepth 20000 in
theorem gX3_fall_X3_fall : GoodIn wsX3_fall (wsV RX3 44 RX3 yX3_fall wsX3_fall) := goodIn_app (goodIn_r _ [57, 58, 59, 28] rfl (by decide +kernel)) ggX3_fall_X3_fall
set_option maxRecDepth 20000 in
theorem gX3_fall_X3_fallTimes : GoodIn wsX3_fall (wsV RX3 75 RX3 yX3_fallTimes wsX3_fallTimes) := goodIn_app (goodIn_r _ [36, 37, 38, 28] rfl (by decide +kernel)) ggX3_fall_X3_fallTimes
set_option maxRecDepth 20000 in
theorem gX3_fall_X8_priceAt : GoodIn wsX3_fall (wsV RX3 88 RX8 yX8_priceAt wsX8_priceAt) := goodIn_app (goodIn_r _ [50, 51, 52, 41] rfl (by decide +kernel)) ggX3_fall_X8_priceAt
set_option maxRecDepth 20000 in
theorem gX3_fall_X8_spotOn : GoodIn wsX3_fall (va_wsS RX3 82 yX8_spotOn wsX8_spotOn) := goodIn_app (goodIn_of _ (by decide +kernel)) ggX3_fall_X8_spotOn
theorem hv_X11_takenOn : yX11_takenOn.cls = RX11 ∧ yX11_takenOn.cls ≠ "java/lang/invoke/MethodHandle" ∧ yX11_takenOn.cls ≠ "java/lang/invoke/VarHandle" ∧ (parseMethodDescriptor yX11_takenOn.desc).map (fun d => d.parameters.length) = some 3 := by decide +kernel
theorem hv_X3_enter : yX3_enter.cls = RX3 ∧ yX3_enter.cls ≠ "java/lang/invoke/MethodHandle" ∧ yX3_enter.cls ≠ "java/lang/invoke/VarHandle" ∧ (parseMethodDescriptor yX3_enter.desc).map (fun d => d.parameters.length) = some 2 := by decide +kernel
theorem hv_X3_fallTimes : yX3_fallTimes.cls = RX3 ∧ yX3_fallTimes.cls ≠ "java/lang/invoke/MethodHandle" ∧ yX3_fallTimes.cls ≠ "java/lang/invoke/VarHandle" ∧ (parseMethodDescriptor yX3_fallTimes.desc).map (fun d => d.parameters.length) = some 4 := by decide +kernel
set_option maxRecDepth 20000 in
theorem in_X3_fall_X2 : ∀ w ∈ wsX20, w ∈ wsX3_fall := sub_r [160, 161, 162, 163, 164, 165, 166, 167] rfl
set_option maxRecDepth 20000 in
theorem in_X3_fall_X3 : ∀ w ∈ wsX30, w ∈ wsX3_fall := sub_r [153, 154, 155, 156, 157, 158, 159] rfl
set_option maxHeartbeats 4000000 in
set_option maxRecDepth 100000 in
theorem s_X3_fall (l : Launch) (D : va_G) (T : Nat → ClassId) (ad sa av : Nat → Nat) (ta : Nat) (sz : Nat) (h0 : Nat) (on : Nat) (dy : Int32) (mu : Int32) (pa : Int32) (fo : Nat → Int64) (wo : Nat) (la : Nat) (cl : Nat) (p0 : Nat) (p1 : Nat) (p4 : Nat) (n : Int32) (l9 : Nat → Int32) (n0 : Int32) (c1 : Nat) (c2 : Nat) (c3 : Nat) (c4 : Nat) (c5 : Nat) (c6 : Nat) (c7 : Nat) (f1 : Nat → Int32) (f2 : Nat → Int32) (f3 : Nat → Int32) (f4 : Nat → Int32) (f5 : Nat → Int32) (g0 : Nat → Int64) (g1 : Nat → Int64) (g4 : Nat → Int32) (d : Nat) (x1 : Int32) (x2 : Int32) (x3 : Int64) (hx : 0 ≤ x1.toInt ∧ x1.toInt < 24) (hd : 0 ≤ x2.toInt ∧ x2.toInt ≤ 6) (hpa : 0 ≤ pa.toInt ∧ pa.toInt ≤ 63) (hok : okC f1 f3 f4 f5) (hxn : x1.toInt < n0.toInt) (hmm : memW (VALW l9 f1 f2 f3 f4 f5) n0 n g0 g1 g4) (hlq : (1 ≤ (l9 4).toInt ∧ (l9 4).toInt ≤ 9) ∧ 1 ≤ (l9 6).toInt ∧ (l9 6).toInt ≤ 9) (hdep : x1.toInt < d + 1) (hrec : cF_fall l D T ad sa av ta d) : Met l yX3_fall wsX3_fall ({ frames := 2 * (d + 1) + 75, cells := 0, slots := 0, locals := 64 * (d + 1) + 2400 }) (pWk [.ref h0, .int x1, .int x2, .long x3] D T [(h0, .inr (2, [.ref la, .ref cl, .ref wo, .ref on, .int dy, .int mu, .int pa])), (on, .inl (T 1, 7, .inr (.inl fo))), (wo, .inr (8, [.ref la, .ref cl, .ref p0, .ref p1, .ref p4, .int n])), (la, .inr (5, [.int (l9 0), .int (l9 1), .int (l9 2), .int (l9 3), .int (l9 4), .int (l9 5), .int (l9 6)])), (cl, .inr (1, [.int n0, .ref c1, .ref c2, .ref c3, .ref c4, .ref c5, .ref c6, .ref c7])), (c1, .inl (T 0, 24, .inl f1)), (c2, .inl (T 0, 24, .inl f2)), (c3, .inl (T 0, 24, .inl f3)), (c4, .inl (T 0, 24, .inl f4)), (c5, .inl (T 0, 24, .inl f5)), (p0, .inl (T 1, 676, .inr (.inl g0))), (p1, .inl (T 1, 676, .inr (.inl g1))), (p4, .inl (T 0, 672, .inl g4))] sz ad sa av ta) (va_Qv (fun (u : (Nat → Int64) × Int32 × Int32 × (Nat → Int64) × (Nat → Int64) × (Nat → Int32)) => falP l9 f1 f2 f3 f4 f5 (VALW l9 f1 f2 f3 f4 f5) pa (d + 1) x1 x2 x3 ((fo, dy, mu) : duS) ((u.1, u.2.1, u.2.2.1) : duS) ∧ stW (VALW l9 f1 f2 f3 f4 f5) n0 n (fun _ => True) g0 g1 g4 u.2.2.2.1 u.2.2.2.2.1 u.2.2.2.2.2) (bW D (va_A [(h0, .inr (2, [.ref la, .ref cl, .ref wo, .ref on, .int dy, .int mu, .int pa])), (on, .inl (T 1, 7, .inr (.inl fo))), (wo, .inr (8, [.ref la, .ref cl, .ref p0, .ref p1, .ref p4, .int n])), (la, .inr (5, [.int (l9 0), .int (l9 1), .int (l9 2), .int (l9 3), .int (l9 4), .int (l9 5), .int (l9 6)])), (cl, .inr (1, [.int n0, .ref c1, .ref c2, .ref c3, .ref c4, .ref c5, .ref c6, .ref c7])), (c1, .inl (T 0, 24, .inl f1)), (c2, .inl (T 0, 24, .inl f2)), (c3, .inl (T 0, 24, .inl f3)), (c4, .inl (T 0, 24, .inl f4)), (c5, .inl (T 0, 24, .inl f5)), (p0, .inl (T 1, 676, .inr (.inl g0))), (p1, .inl (T 1, 676, .inr (.inl g1))), (p4, .inl (T 0, 672, .inl g4))] sz) (fun (u : (Nat → Int64) × Int32 × Int32 × (Nat → Int64) × (Nat → Int64) × (Nat → Int32)) => [(h0, .inr (2, [.ref la, .ref cl, .ref wo, .ref on, .int u.2.1, .int u.2.2.1, .int pa])), (on, .inl (T 1, 7, .inr (.inl u.1))), (wo, .inr (8, [.ref la, .ref cl, .ref p0, .ref p1, .ref p4, .int n])), (la, .inr (5, [.int (l9 0), .int (l9 1), .int (l9 2), .int (l9 3), .int (l9 4), .int (l9 5), .int (l9 6)])), (cl, .inr (1, [.int n0, .ref c1, .ref c2, .ref c3, .ref c4, .ref c5, .ref c6, .ref c7])), (c1, .inl (T 0, 24, .inl f1)), (c2, .inl (T 0, 24, .inl f2)), (c3, .inl (T 0, 24, .inl f3)), (c4, .inl (T 0, 24, .inl f4)), (c5, .inl (T 0, 24, .inl f5)), (p0, .inl (T 1, 676, .inr (.inl u.2.2.2.1))), (p1, .inl (T 1, 676, .inr (.inl u.2.2.2.2.1))), (p4, .inl (T 0, 672, .inl u.2.2.2.2.2))])) (va_A [(h0, .inr (2, [.ref la, .ref cl, .ref wo, .ref on, .int dy, .int mu, .int pa])), (on, .inl (T 1, 7, .inr (.inl fo))), (wo, .inr (8, [.ref la, .ref cl, .ref p0, .ref p1, .ref p4, .int n])), (la, .inr (5, [.int (l9 0), .int (l9 1), .int (l9 2), .int (l9 3), .int (l9 4), .int (l9 5), .int (l9 6)])), (cl, .inr (1, [.int n0, .ref c1, .ref c2, .ref c3, .ref c4, .ref c5, .ref c6, .ref c7])), (c1, .inl (T 0, 24, .inl f1)), (c2, .inl (T 0, 24, .inl f2)), (c3, .inl (T 0, 24, .inl f3)), (c4, .inl (T 0, 24, .inl f4)), (c5, .inl (T 0, 24, .inl f5)), (p0, .inl (T 1, 676, .inr (.inl g0))), (p1, .inl (T 1, 676, .inr (.inl g1))), (p4, .inl (T 0, 672, .inl g4))] sz)) 0 0 (va_A [(h0, .inr (2, [.ref la, .ref cl, .ref wo, .ref on, .int dy, .int mu, .int pa])), (on, .inl (T 1, 7, .inr (.inl fo))), (wo, .inr (8, [.ref la, .ref cl, .ref p0, .ref p1, .ref p4, .int n])), (la, .inr (5, [.int (l9 0), .int (l9 1), .int (l9 2), .int (l9 3), .int (l9 4), .int (l9 5), .int (l9 6)])), (cl, .inr (1, [.int n0, .ref c1, .ref c2, .ref c3, .ref c4, .ref c5, .ref c6, .ref c7])), (c1, .inl (T 0, 24, .inl f1)), (c2, .inl (T 0, 24, .inl f2)), (c3, .inl (T 0, 24, .inl f3)), (c4, .inl (T 0, 24, .inl f4)), (c5, .inl (T 0, 24, .inl f5)), (p0, .inl (T 1, 676, .inr (.inl g0))), (p1, .inl (T 1, 676, .inr (.inl g1))), (p4, .inl (T 0, 672, .inl g4))] sz) := by
  refine Met.ofW (cc := cX3_fall) (maxL := 8) (ret := none) (by decide +kernel) rfl ?_
  intro p e s m args below meth c s₁ B hml hv
  obtain ⟨rfl, hsz, hP, hE, hD0, hV⟩ := hv
  have hx := B.exec
  have hb := B.bytes
  have hr := B.returns
  have hts := atoms_spec (ws := wsX3_fall) B.pre
  have hown : s.vm.findClass RX3 = some m.cls := findClass_of_methodNamed B.named
  have hlocks := B.notSynchronized
  subst hsz
  have hD := hD0.self (sz := s.heap.size)
  generalize hAe : va_A [(h0, .inr (2, [.ref la, .ref cl, .ref wo, .ref on, .int dy, .int mu, .int pa])), (on, .inl (T 1, 7, .inr (.inl fo))), (wo, .inr (8, [.ref la, .ref cl, .ref p0, .ref p1, .ref p4, .int n])), (la, .inr (5, [.int (l9 0), .int (l9 1), .int (l9 2), .int (l9 3), .int (l9 4), .int (l9 5), .int (l9 6)])), (cl, .inr (1, [.int n0, .ref c1, .ref c2, .ref c3, .ref c4, .ref c5, .ref c6, .ref c7])), (c1, .inl (T 0, 24, .inl f1)), (c2, .inl (T 0, 24, .inl f2)), (c3, .inl (T 0, 24, .inl f3)), (c4, .inl (T 0, 24, .inl f4)), (c5, .inl (T 0, 24, .inl f5)), (p0, .inl (T 1, 676, .inr (.inl g0))), (p1, .inl (T 1, 676, .inr (.inl g1))), (p4, .inl (T 0, 672, .inl g4))] s.heap.size = A at hD hV ⊢
  have hA : ∀ q : Nat, s.heap.size ≤ q → A q := fun q h => by rw [← hAe]; exact Or.inr h
  have hS : va_S A s.heap s.heap [] := va_S.rf
  have hP : va_P D vwCl [(h0, .inr (2, [.ref la, .ref cl, .ref wo, .ref on, .int dy, .int mu, .int pa])), (on, .inl (T 1, 7, .inr (.inl fo))), (wo, .inr (8, [.ref la, .ref cl, .ref p0, .ref p1, .ref p4, .int n])), (la, .inr (5, [.int (l9 0), .int (l9 1), .int (l9 2), .int (l9 3), .int (l9 4), .int (l9 5), .int (l9 6)])), (cl, .inr (1, [.int n0, .ref c1, .ref c2, .ref c3, .ref c4, .ref c5, .ref c6, .ref c7])), (c1, .inl (T 0, 24, .inl f1)), (c2, .inl (T 0, 24, .inl f2)), (c3, .inl (T 0, 24, .inl f3)), (c4, .inl (T 0, 24, .inl f4)), (c5, .inl (T 0, 24, .inl f5)), (p0, .inl (T 1, 676, .inr (.inl g0))), (p1, .inl (T 1, 676, .inr (.inl g1))), (p4, .inl (T 0, 672, .inl g4))] s.heap := hP
  have hl := lv_entry ([.ref h0, .int x1, .int x2, .long x3]) (n := 8) (Nat.le_of_ble_eq_true rfl)
  rw [lg_entry_eq]
  generalize (lg_sl ([.ref h0, .int x1, .int x2, .long x3]) ++ List.replicate (8 - (lg_sl ([.ref h0, .int x1, .int x2, .long x3])).length) Slot.unset).toArray = ls at hl ⊢
  have hl : lv_has ls 8 [(0, .ref h0), (1, .int x1), (2, .int x2), (3, .long x3)] := hl
  have he6 : (f5 (x1.toNatClampNeg)).toInt ≤ 6 := (hok _ (in24 (x := x1) (by omega)).1).2.2.2
  clear hD0
  have hst : stW (VALW l9 f1 f2 f3 f4 f5) n0 n (fun _ => True) g0 g1 g4 g0 g1 g4 := stW_rf hmm
  refine lv_aload_n hx hb dX3_fall_0 rfl (lv_at hl 0 rfl) ?_
  refine va_get (D := D) (ci := 2) (v := .int mu) (C := RX3) (T := TX3) (N := 7) hx hb hts in_X3_fall_X3 hown hE.1 hP 0 rfl rfl 5 (by decide +kernel) (hts (.fieldLink RX3 19 "ClauseBook$Falling" "much" "Z") (List.mem_of_getElem? (i := 1) rfl)) (fun _ h9 => h9) rfl dX3_fall_1 ?_
  refine lv_if_ne (tgt := 20) hx hb dX3_fall_4 (by decide +kernel) (fun c_1 => ?_) (fun c_1 => ?_)
  · rw [fa_eq] at c_1
    try rw [ti_0] at c_1
    exact W.vret hx hb hr (fun t ht hW => ⟨⟨(fo, dy, mu, g0, g1, g4), rfl, ⟨fal_ret (by first | exact Or.inl (show ¬ mu.toInt = 0 from by omega) | exact Or.inr (by omega)), hst⟩, by rw [ht]; exact hP.sub [0, 1, 2, 3, 4, 5, 6, 7, 8, 9, 10, 11, 12] rfl, hD.sub [0, 1, 2, 3, 4, 5, 6, 7, 8, 9, 10, 11, 12] (by decide +kernel) rfl⟩, hS.F ht⟩) hS.2.2 dX3_fall_20
  · rw [fa_eq] at c_1
    try rw [ti_0] at c_1
    refine lv_iload_n hx hb dX3_fall_7 rfl (lv_at hl 2 rfl) ?_
    refine lv_aload_n hx hb dX3_fall_8 rfl (lv_at hl 0 rfl) ?_
    refine va_get (D := D) (ci := 2) (v := .ref cl) (C := RX3) (T := TX3) (N := 7) hx hb hts in_X3_fall_X3 hown hE.1 hP 0 rfl rfl 1 (by decide +kernel) (hts (.fieldLink RX3 30 "ClauseBook$Falling" "clauses" "LClauseBook$Clauses;") (List.mem_of_getElem? (i := 2) rfl)) (fun _ h9 => h9) rfl dX3_fall_9 ?_
    refine va_get (D := D) (ci := 1) (v := .ref c5) (C := RX2) (T := TX2) (N := 8) hx hb hts in_X3_fall_X2 hown hE.1 hP 4 rfl rfl 5 (by decide +kernel) (hts (.fieldLink RX3 48 "ClauseBook$Clauses" "end" "[I") (List.mem_of_getElem? (i := 3) rfl)) (fun _ h9 => h9) rfl dX3_fall_12 ?_
    refine lv_iload_n hx hb dX3_fall_15 rfl (lv_at hl 1 rfl) ?_
    refine va_iald hx hb hE.1 hP 9 0 rfl rfl (by rw [vp_in_iff]; first | omega | (subst_vars; omega)) dX3_fall_16 ?_
    refine lv_topi (fun z_2 ez_2 => ?_)
    have hzz_2 : z_2.toInt = (f5 (x1.toNatClampNeg)).toInt := by rw [ez_2]
    refine lv_icmp_le (tgt := 21) hx hb dX3_fall_17 (by decide +kernel) (fun c_3 => ?_) (fun c_3 => ?_)
    · rw [fa_le] at c_3
      refine lv_aload_n hx hb dX3_fall_21 rfl (lv_at hl 0 rfl) ?_
      refine va_get (D := D) (ci := 2) (v := .ref cl) (C := RX3) (T := TX3) (N := 7) hx hb hts in_X3_fall_X3 hown hE.1 hP 0 rfl rfl 1 (by decide +kernel) (hts (.fieldLink RX3 30 "ClauseBook$Falling" "clauses" "LClauseBook$Clauses;") (List.mem_of_getElem? (i := 2) rfl)) (fun _ h9 => h9) rfl dX3_fall_22 ?_
      refine va_get (D := D) (ci := 1) (v := .ref c3) (C := RX2) (T := TX2) (N := 8) hx hb hts in_X3_fall_X2 hown hE.1 hP 4 rfl rfl 3 (by decide +kernel) (hts (.fieldLink RX3 51 "ClauseBook$Clauses" "c" "[I") (List.mem_of_getElem? (i := 4) rfl)) (fun _ h9 => h9) rfl dX3_fall_25 ?_
      refine lv_iload_n hx hb dX3_fall_28 rfl (lv_at hl 1 rfl) ?_
      refine va_iald hx hb hE.1 hP 7 0 rfl rfl (by rw [vp_in_iff]; first | omega | (subst_vars; omega)) dX3_fall_29 ?_
      refine lv_topi (fun z_4 ez_4 => ?_)
      refine lv_istore (lv' := [(5, .int z_4), (0, .ref h0), (1, .int x1), (2, .int x2), (3, .long x3)]) hx hb dX3_fall_30 hl (by decide +kernel) rfl (fun ls hl => ?_)
      refine va_gets (v := .ref (av 13)) hx hb hV.2.2.2.2.1 hS hown (hts (.fieldLink RX3 54 "ClauseBook$1" "$SwitchMap$ClauseBook$Kind" "[I") (List.mem_of_getElem? (i := 5) rfl)) (fun _ h9 => h9) dX3_fall_32 ?_
      refine lv_aload_n hx hb dX3_fall_35 rfl (lv_at hl 1 rfl) ?_
      refine va_get (D := D) (ci := 2) (v := .ref cl) (C := RX3) (T := TX3) (N := 7) hx hb hts in_X3_fall_X3 hown hE.1 hP 0 rfl rfl 1 (by decide +kernel) (hts (.fieldLink RX3 30 "ClauseBook$Falling" "clauses" "LClauseBook$Clauses;") (List.mem_of_getElem? (i := 2) rfl)) (fun _ h9 => h9) rfl dX3_fall_36 ?_
      refine lv_iload_n hx hb dX3_fall_39 rfl (lv_at hl 2 rfl) ?_
      refine va_cse (W.runV (As := [.int x1]) (rest := [.ref (av 13)]) ⟨hx, hb, hml, hown, hts⟩ (c_X2_kindOf l D T ad sa av ta cl [.int n0, .ref c1, .ref c2, .ref c3, .ref c4, .ref c5, .ref c6, .ref c7] c1 f1 x1 rfl (by omega) ((hok _ (in24 (x := x1) (by omega)).1).1)) (cwV 1 hts gX3_fall_X2_kindOf rfl rfl rfl hv_X2_kindOf ⟨(show _ ≤ (2 * (d + 1) + 75 : Nat) from by (try dsimp only); omega), (show _ ≤ (64 * (d + 1) + 2400 : Nat) from by (try dsimp only); omega)⟩) (pRk_V (q := (RX2, TX2, 8)) (ci := 1) (q0 := 4) hP hE hV hS rfl rfl [4, 5] rfl) rfl rfl hl.1 rfl (lv_room (Nat.le_of_ble_eq_true rfl)) dX3_fall_40 ⟨Nat.le_of_ble_eq_true rfl, Nat.le_of_ble_eq_true rfl⟩) (fun r_5 hr_5 => ?_)
      subst hr_5
      refine W.eq (g2 := F0 m 43 ls [.ref (ad ((f1 (x1.toNatClampNeg)).toNatClampNeg)), .ref (av 13)]) rfl ?_
      rcases (in13n (in13c ((hok _ (in24 (x := x1) (by omega)).1).1))) with hk9 | hk9 | hk9 | hk9 | hk9 | hk9 | hk9 | hk9 | hk9 | hk9 | hk9 | hk9 | hk9
      · refine W.eq (g2 := F0 m 43 ls [.ref (ad 0), .ref (av 13)]) (by rw [hk9]) ?_
        refine vp_callSi (va_Run.run (va_runU (As := []) (rest := [.ref (av 13)]) ⟨hx, hb, hml, hown, hts⟩ (c_Jx29ce0_ordinal_8abf5 l D T ad sa av ta 0 (by decide +kernel)) (va_cwU 0 hts gX3_fall_Jx29ce0_ordinal_8abf5_u63X7 rfl rfl rfl rfl (by decide +kernel) ⟨(show _ ≤ (2 * (d + 1) + 75 : Nat) from by (try dsimp only); omega), (show _ ≤ (64 * (d + 1) + 2400 : Nat) from by (try dsimp only); omega)⟩) (pRk_VE (i := 0) (by decide +kernel) hP hE hV hS [] rfl) rfl rfl hl.1 rfl (lv_room (Nat.le_of_ble_eq_true rfl)) dX3_fall_43 ⟨Nat.le_of_ble_eq_true rfl, Nat.le_of_ble_eq_true rfl⟩)) (fun r_6 hr_6 => ?_)
        obtain rfl : (odT 0) = r_6 := (hr_6).symm
        refine va_ti (v := .int (swT 0)) hx hb hV.2.2.2.2.2.1 hS (odT_in (by decide +kernel)) (congrArg (fun z => Value.int (swT z)) (odT_at (by decide +kernel))) dX3_fall_46 ?_
        refine lv_topi (fun z_7 ez_7 => ?_)
        obtain rfl : z_7 = 1 := ez_7.trans (by decide +kernel)
        refine lv_tableIn (off := 45) (tgt := 92) hx hb dX3_fall_47 (by decide +kernel) (by decide +kernel) (by decide +kernel) (by decide +kernel) ?_
        refine lv_goto (tgt := 296) hx hb dX3_fall_92 (by decide +kernel) ?_
        exact W.vret hx hb hr (fun t ht hW => ⟨⟨(fo, dy, mu, g0, g1, g4), rfl, ⟨fal_0 (show mu.toInt = 0 from by omega) (by omega) hk9, hst⟩, by rw [ht]; exact hP.sub [0, 1, 2, 3, 4, 5, 6, 7, 8, 9, 10, 11, 12] rfl, hD.sub [0, 1, 2, 3, 4, 5, 6, 7, 8, 9, 10, 11, 12] (by decide +kernel) rfl⟩, hS.F ht⟩) hS.2.2 dX3_fall_296
      · refine W.eq (g2 := F0 m 43 ls [.ref (ad 1), .ref (av 13)]) (by rw [hk9]) ?_
        refine vp_callSi (va_Run.run (va_runU (As := []) (rest := [.ref (av 13)]) ⟨hx, hb, hml, hown, hts⟩ (c_Jx29ce0_ordinal_8abf5 l D T ad sa av ta 1 (by decide +kernel)) (va_cwU 0 hts gX3_fall_Jx29ce0_ordinal_8abf5_u63X7 rfl rfl rfl rfl (by decide +kernel) ⟨(show _ ≤ (2 * (d + 1) + 75 : Nat) from by (try dsimp only); omega), (show _ ≤ (64 * (d + 1) + 2400 : Nat) from by (try dsimp only); omega)⟩) (pRk_VE (i := 1) (by decide +kernel) hP hE hV hS [] rfl) rfl rfl hl.1 rfl (lv_room (Nat.le_of_ble_eq_true rfl)) dX3_fall_43 ⟨Nat.le_of_ble_eq_true rfl, Nat.le_of_ble_eq_true rfl⟩)) (fun r_8 hr_8 => ?_)
        obtain rfl : (odT 1) = r_8 := (hr_8).symm
        refine va_ti (v := .int (swT 1)) hx hb hV.2.2.2.2.2.1 hS (odT_in (by decide +kernel)) (congrArg (fun z => Value.int (swT z)) (odT_at (by decide +kernel))) dX3_fall_46 ?_
        refine lv_topi (fun z_9 ez_9 => ?_)
        obtain rfl : z_9 = 2 := ez_9.trans (by decide +kernel)
        refine lv_tableIn (off := 48) (tgt := 95) hx hb dX3_fall_47 (by decide +kernel) (by decide +kernel) (by decide +kernel) (by decide +kernel) ?_
        refine lv_aload_n hx hb dX3_fall_95 rfl (lv_at hl 1 rfl) ?_
        refine lv_iload_n hx hb dX3_fall_96 rfl (lv_at hl 3 rfl) ?_
        refine lv_lload_n hx hb dX3_fall_97 rfl (lv_at hl 4 rfl) ?_
        have hFc := va_free (wc := [(h0, .inr (2, [.ref la, .ref cl, .ref wo, .ref on, .int dy, .int mu, .int pa])), (on, .inl (T 1, 7, .inr (.inl fo)))]) hD hS hA [0, 1] rfl
        refine va_callv (va_runV (As := [.int x2, .long x3]) (rest := []) ⟨hx, hb, hml, hown, hts⟩ (c_X3_enter l D T _ h0 on (.ref la) (.ref cl) (.ref wo) dy mu pa fo x2 x3 (by omega)) (cwV 2 hts gX3_fall_X3_enter rfl rfl rfl hv_X3_enter ⟨(show _ ≤ (2 * (d + 1) + 75 : Nat) from by (try dsimp only); omega), (show _ ≤ (64 * (d + 1) + 2400 : Nat) from by (try dsimp only); omega)⟩) (pW_V (q := (RX3, TX3, 7)) (ci := 2) (q0 := 0) hP hE hD rfl rfl [0, 1] (by decide +kernel) rfl rfl) rfl rfl hl.1 rfl (lv_room (Nat.le_of_ble_eq_true rfl)) dX3_fall_98 ⟨Nat.le_of_ble_eq_true rfl, Nat.le_of_ble_eq_true rfl⟩) hS (fun q _ h => hFc q h) hFc (fun u_11 t H1 locs ht hvm hr_10 hB hz1 hk1 hS => ?_)
        obtain ⟨f_12, n_13, n_14⟩ := u_11
        have hflhr_10 : entP x2 x3 ((fo, dy, mu) : duS) ((f_12, n_13, n_14) : duS) := hr_10
        obtain ⟨hP1, hD1⟩ := hB
        rw [ht] at hP1
        obtain ⟨hP, hD⟩ := va_repl [(h0, .inr (2, [.ref la, .ref cl, .ref wo, .ref on, .int n_13, .int n_14, .int pa])), (on, .inl (T 1, 7, .inr (.inl f_12))), (wo, .inr (8, [.ref la, .ref cl, .ref p0, .ref p1, .ref p4, .int n])), (la, .inr (5, [.int (l9 0), .int (l9 1), .int (l9 2), .int (l9 3), .int (l9 4), .int (l9 5), .int (l9 6)])), (cl, .inr (1, [.int n0, .ref c1, .ref c2, .ref c3, .ref c4, .ref c5, .ref c6, .ref c7])), (c1, .inl (T 0, 24, .inl f1)), (c2, .inl (T 0, 24, .inl f2)), (c3, .inl (T 0, 24, .inl f3)), (c4, .inl (T 0, 24, .inl f4)), (c5, .inl (T 0, 24, .inl f5)), (p0, .inl (T 1, 676, .inr (.inl g0))), (p1, .inl (T 1, 676, .inr (.inl g1))), (p4, .inl (T 0, 672, .inl g4))] hP hD [0, 1] [0, 1] rfl (by decide +kernel) rfl rfl rfl hk1 hP1
        clear hP1 hD1 hFc
        generalize H1 = H at hP hS ⊢
        refine lv_goto (tgt := 296) hx hb dX3_fall_101 (by decide +kernel) ?_
        exact W.vret hx hb hr (fun t ht hW => ⟨⟨(f_12, n_13, n_14, g0, g1, g4), rfl, ⟨fal_1 (show mu.toInt = 0 from by omega) (by omega) hk9 hflhr_10, hst⟩, by rw [ht]; exact hP.sub [0, 1, 2, 3, 4, 5, 6, 7, 8, 9, 10, 11, 12] rfl, hD.sub [0, 1, 2, 3, 4, 5, 6, 7, 8, 9, 10, 11, 12] (by decide +kernel) rfl⟩, hS.F ht⟩) hS.2.2 dX3_fall_296
      · refine W.eq (g2 := F0 m 43 ls [.ref (ad 2), .ref (av 13)]) (by rw [hk9]) ?_
        have hc9 : 0 ≤ z_4.toInt ∧ z_4.toInt < x1.toInt := by
          have h := (hok _ (in24 (x := x1) (by omega)).1).2.1 (by rw [hk9]; decide)
          have h2 := (in24 (x := x1) (by omega)).2
          rw [ez_4]
          omega
        refine vp_callSi (va_Run.run (va_runU (As := []) (rest := [.ref (av 13)]) ⟨hx, hb, hml, hown, hts⟩ (c_Jx29ce0_ordinal_8abf5 l D T ad sa av ta 2 (by decide +kernel)) (va_cwU 0 hts gX3_fall_Jx29ce0_ordinal_8abf5_u63X7 rfl rfl rfl rfl (by decide +kernel) ⟨(show _ ≤ (2 * (d + 1) + 75 : Nat) from by (try dsimp only); omega), (show _ ≤ (64 * (d + 1) + 2400 : Nat) from by (try dsimp only); omega)⟩) (pRk_VE (i := 2) (by decide +kernel) hP hE hV hS [] rfl) rfl rfl hl.1 rfl (lv_room (Nat.le_of_ble_eq_true rfl)) dX3_fall_43 ⟨Nat.le_of_ble_eq_true rfl, Nat.le_of_ble_eq_true rfl⟩)) (fun r_15 hr_15 => ?_)
        obtain rfl : (odT 2) = r_15 := (hr_15).symm
        refine va_ti (v := .int (swT 2)) hx hb hV.2.2.2.2.2.1 hS (odT_in (by decide +kernel)) (congrArg (fun z => Value.int (swT z)) (odT_at (by decide +kernel))) dX3_fall_46 ?_
        refine lv_topi (fun z_16 ez_16 => ?_)
        obtain rfl : z_16 = 3 := ez_16.trans (by decide +kernel)
        refine lv_tableIn (off := 57) (tgt := 104) hx hb dX3_fall_47 (by decide +kernel) (by decide +kernel) (by decide +kernel) (by decide +kernel) ?_
        refine lv_aload_n hx hb dX3_fall_104 rfl (lv_at hl 1 rfl) ?_
        refine lv_iload hx hb dX3_fall_105 (lv_at hl 0 rfl) ?_
        refine lv_iload_n hx hb dX3_fall_107 rfl (lv_at hl 3 rfl) ?_
        refine lv_lload_n hx hb dX3_fall_108 rfl (lv_at hl 4 rfl) ?_
        refine lv_ldc2 (v := (-1)) hx hb hown (hts (.constantLong RX3 73 (-1)) (List.mem_of_getElem? (i := 6) rfl)) dX3_fall_109 ?_
        have hFc := va_free (wc := [(h0, .inr (2, [.ref la, .ref cl, .ref wo, .ref on, .int dy, .int mu, .int pa])), (on, .inl (T 1, 7, .inr (.inl fo))), (wo, .inr (8, [.ref la, .ref cl, .ref p0, .ref p1, .ref p4, .int n])), (la, .inr (5, [.int (l9 0), .int (l9 1), .int (l9 2), .int (l9 3), .int (l9 4), .int (l9 5), .int (l9 6)])), (cl, .inr (1, [.int n0, .ref c1, .ref c2, .ref c3, .ref c4, .ref c5, .ref c6, .ref c7])), (c1, .inl (T 0, 24, .inl f1)), (c2, .inl (T 0, 24, .inl f2)), (c3, .inl (T 0, 24, .inl f3)), (c4, .inl (T 0, 24, .inl f4)), (c5, .inl (T 0, 24, .inl f5)), (p0, .inl (T 1, 676, .inr (.inl g0))), (p1, .inl (T 1, 676, .inr (.inl g1))), (p4, .inl (T 0, 672, .inl g4))]) hD hS hA [0, 1, 2, 3, 4, 5, 6, 7, 8, 9, 10, 11, 12] rfl
        refine va_callv (va_runV (As := [.int z_4, .int x2, .long x3, .long (-1)]) (rest := []) ⟨hx, hb, hml, hown, hts⟩ (s_X3_fallTimes l D T ad sa av ta _ h0 on dy mu pa fo wo la cl p0 p1 p4 n l9 n0 c1 c2 c3 c4 c5 c6 c7 f1 f2 f3 f4 f5 g0 g1 g4 d z_4 x2 x3 (-1) (by omega) (by omega) (by omega) hok (by omega) hmm hlq (by omega) hrec) (cwV 4 hts gX3_fall_X3_fallTimes rfl rfl rfl hv_X3_fallTimes ⟨(show _ ≤ (2 * (d + 1) + 75 : Nat) from by (try dsimp only); omega), (show _ ≤ (64 * (d + 1) + 2400 : Nat) from by (try dsimp only); omega)⟩) (pWk_V (q := (RX3, TX3, 7)) (ci := 2) (q0 := 0) hP hE hD hV hS hFc rfl rfl [0, 1, 2, 3, 4, 5, 6, 7, 8, 9, 10, 11, 12] (by decide +kernel) rfl rfl) rfl rfl hl.1 rfl (lv_room (Nat.le_of_ble_eq_true rfl)) dX3_fall_112 ⟨Nat.le_of_ble_eq_true rfl, Nat.le_of_ble_eq_true rfl⟩) hS (fun q _ h => hFc q h) hFc (fun u_18 t H1 locs ht hvm hr_17 hB hz1 hk1 hS => ?_)
        obtain ⟨f_19, n_20, n_21, f_22, f_23, f_24⟩ := u_18
        have hsfhr_17 : stW (VALW l9 f1 f2 f3 f4 f5) n0 n (fun _ => True) g0 g1 g4 f_22 f_23 f_24 := hr_17.2
        have hst : stW (VALW l9 f1 f2 f3 f4 f5) n0 n (fun _ => True) g0 g1 g4 f_22 f_23 f_24 := hst.tr hsfhr_17 (fun _ _ => trivial)
        have hmm : memW (VALW l9 f1 f2 f3 f4 f5) n0 n f_22 f_23 f_24 := hst.1
        have hflhr_17 : duT x3 ((-1) : Int64) (fun v => falP l9 f1 f2 f3 f4 f5 (VALW l9 f1 f2 f3 f4 f5) pa d z_4 x2 v ((fo, dy, mu) : duS) ((f_19, n_20, n_21) : duS)) ((f_19, n_20, n_21) : duS) := hr_17.1
        obtain ⟨hP1, hD1⟩ := hB
        rw [ht] at hP1
        obtain ⟨hP, hD⟩ := va_repl [(h0, .inr (2, [.ref la, .ref cl, .ref wo, .ref on, .int n_20, .int n_21, .int pa])), (on, .inl (T 1, 7, .inr (.inl f_19))), (wo, .inr (8, [.ref la, .ref cl, .ref p0, .ref p1, .ref p4, .int n])), (la, .inr (5, [.int (l9 0), .int (l9 1), .int (l9 2), .int (l9 3), .int (l9 4), .int (l9 5), .int (l9 6)])), (cl, .inr (1, [.int n0, .ref c1, .ref c2, .ref c3, .ref c4, .ref c5, .ref c6, .ref c7])), (c1, .inl (T 0, 24, .inl f1)), (c2, .inl (T 0, 24, .inl f2)), (c3, .inl (T 0, 24, .inl f3)), (c4, .inl (T 0, 24, .inl f4)), (c5, .inl (T 0, 24, .inl f5)), (p0, .inl (T 1, 676, .inr (.inl f_22))), (p1, .inl (T 1, 676, .inr (.inl f_23))), (p4, .inl (T 0, 672, .inl f_24))] hP hD [0, 1, 2, 3, 4, 5, 6, 7, 8, 9, 10, 11, 12] [0, 1, 2, 3, 4, 5, 6, 7, 8, 9, 10, 11, 12] rfl (by decide +kernel) rfl rfl rfl hk1 hP1
        clear hP1 hD1 hFc
        generalize H1 = H at hP hS ⊢
        refine lv_goto (tgt := 296) hx hb dX3_fall_115 (by decide +kernel) ?_
        exact W.vret hx hb hr (fun t ht hW => ⟨⟨(f_19, n_20, n_21, f_22, f_23, f_24), rfl, ⟨fal_2 (show mu.toInt = 0 from by omega) (by omega) hk9 (by rw [← ez_4]; exact hflhr_17), hst⟩, by rw [ht]; exact hP.sub [0, 1, 2, 3, 4, 5, 6, 7, 8, 9, 10, 11, 12] rfl, hD.sub [0, 1, 2, 3, 4, 5, 6, 7, 8, 9, 10, 11, 12] (by decide +kernel) rfl⟩, hS.F ht⟩) hS.2.2 dX3_fall_296
      · refine W.eq (g2 := F0 m 43 ls [.ref (ad 3), .ref (av 13)]) (by rw [hk9]) ?_
        have hc9 : 0 ≤ z_4.toInt ∧ z_4.toInt < x1.toInt := by
          have h := (hok _ (in24 (x := x1) (by omega)).1).2.1 (by rw [hk9]; decide)
          have h2 := (in24 (x := x1) (by omega)).2
          rw [ez_4]
          omega
        refine vp_callSi (va_Run.run (va_runU (As := []) (rest := [.ref (av 13)]) ⟨hx, hb, hml, hown, hts⟩ (c_Jx29ce0_ordinal_8abf5 l D T ad sa av ta 3 (by decide +kernel)) (va_cwU 0 hts gX3_fall_Jx29ce0_ordinal_8abf5_u63X7 rfl rfl rfl rfl (by decide +kernel) ⟨(show _ ≤ (2 * (d + 1) + 75 : Nat) from by (try dsimp only); omega), (show _ ≤ (64 * (d + 1) + 2400 : Nat) from by (try dsimp only); omega)⟩) (pRk_VE (i := 3) (by decide +kernel) hP hE hV hS [] rfl) rfl rfl hl.1 rfl (lv_room (Nat.le_of_ble_eq_true rfl)) dX3_fall_43 ⟨Nat.le_of_ble_eq_true rfl, Nat.le_of_ble_eq_true rfl⟩)) (fun r_25 hr_25 => ?_)
        obtain rfl : (odT 3) = r_25 := (hr_25).symm
        refine va_ti (v := .int (swT 3)) hx hb hV.2.2.2.2.2.1 hS (odT_in (by decide +kernel)) (congrArg (fun z => Value.int (swT z)) (odT_at (by decide +kernel))) dX3_fall_46 ?_
        refine lv_topi (fun z_26 ez_26 => ?_)
        obtain rfl : z_26 = 4 := ez_26.trans (by decide +kernel)
        refine lv_tableIn (off := 71) (tgt := 118) hx hb dX3_fall_47 (by decide +kernel) (by decide +kernel) (by decide +kernel) (by decide +kernel) ?_
        refine lv_aload_n hx hb dX3_fall_118 rfl (lv_at hl 1 rfl) ?_
        refine lv_iload hx hb dX3_fall_119 (lv_at hl 0 rfl) ?_
        refine lv_iload_n hx hb dX3_fall_121 rfl (lv_at hl 3 rfl) ?_
        refine lv_lload_n hx hb dX3_fall_122 rfl (lv_at hl 4 rfl) ?_
        refine lv_aload_n hx hb dX3_fall_123 rfl (lv_at hl 1 rfl) ?_
        refine va_get (D := D) (ci := 2) (v := .ref cl) (C := RX3) (T := TX3) (N := 7) hx hb hts in_X3_fall_X3 hown hE.1 hP 0 rfl rfl 1 (by decide +kernel) (hts (.fieldLink RX3 30 "ClauseBook$Falling" "clauses" "LClauseBook$Clauses;") (List.mem_of_getElem? (i := 2) rfl)) (fun _ h9 => h9) rfl dX3_fall_124 ?_
        refine va_get (D := D) (ci := 1) (v := .ref c2) (C := RX2) (T := TX2) (N := 8) hx hb hts in_X3_fall_X2 hown hE.1 hP 4 rfl rfl 2 (by decide +kernel) (hts (.fieldLink RX3 79 "ClauseBook$Clauses" "n" "[I") (List.mem_of_getElem? (i := 7) rfl)) (fun _ h9 => h9) rfl dX3_fall_127 ?_
        refine lv_iload_n hx hb dX3_fall_130 rfl (lv_at hl 2 rfl) ?_
        refine va_iald hx hb hE.1 hP 6 0 rfl rfl (by rw [vp_in_iff]; first | omega | (subst_vars; omega)) dX3_fall_131 ?_
        refine lv_topi (fun z_27 ez_27 => ?_)
        refine lv_i2l hx hb dX3_fall_132 rfl ?_
        have hFc := va_free (wc := [(h0, .inr (2, [.ref la, .ref cl, .ref wo, .ref on, .int dy, .int mu, .int pa])), (on, .inl (T 1, 7, .inr (.inl fo))), (wo, .inr (8, [.ref la, .ref cl, .ref p0, .ref p1, .ref p4, .int n])), (la, .inr (5, [.int (l9 0), .int (l9 1), .int (l9 2), .int (l9 3), .int (l9 4), .int (l9 5), .int (l9 6)])), (cl, .inr (1, [.int n0, .ref c1, .ref c2, .ref c3, .ref c4, .ref c5, .ref c6, .ref c7])), (c1, .inl (T 0, 24, .inl f1)), (c2, .inl (T 0, 24, .inl f2)), (c3, .inl (T 0, 24, .inl f3)), (c4, .inl (T 0, 24, .inl f4)), (c5, .inl (T 0, 24, .inl f5)), (p0, .inl (T 1, 676, .inr (.inl g0))), (p1, .inl (T 1, 676, .inr (.inl g1))), (p4, .inl (T 0, 672, .inl g4))]) hD hS hA [0, 1, 2, 3, 4, 5, 6, 7, 8, 9, 10, 11, 12] rfl
        refine va_callv (va_runV (As := [.int z_4, .int x2, .long x3, .long (z_27.toInt64)]) (rest := []) ⟨hx, hb, hml, hown, hts⟩ (s_X3_fallTimes l D T ad sa av ta _ h0 on dy mu pa fo wo la cl p0 p1 p4 n l9 n0 c1 c2 c3 c4 c5 c6 c7 f1 f2 f3 f4 f5 g0 g1 g4 d z_4 x2 x3 (z_27.toInt64) (by omega) (by omega) (by omega) hok (by omega) hmm hlq (by omega) hrec) (cwV 4 hts gX3_fall_X3_fallTimes rfl rfl rfl hv_X3_fallTimes ⟨(show _ ≤ (2 * (d + 1) + 75 : Nat) from by (try dsimp only); omega), (show _ ≤ (64 * (d + 1) + 2400 : Nat) from by (try dsimp only); omega)⟩) (pWk_V (q := (RX3, TX3, 7)) (ci := 2) (q0 := 0) hP hE hD hV hS hFc rfl rfl [0, 1, 2, 3, 4, 5, 6, 7, 8, 9, 10, 11, 12] (by decide +kernel) rfl rfl) rfl rfl hl.1 rfl (lv_room (Nat.le_of_ble_eq_true rfl)) dX3_fall_133 ⟨Nat.le_of_ble_eq_true rfl, Nat.le_of_ble_eq_true rfl⟩) hS (fun q _ h => hFc q h) hFc (fun u_29 t H1 locs ht hvm hr_28 hB hz1 hk1 hS => ?_)
        obtain ⟨f_30, n_31, n_32, f_33, f_34, f_35⟩ := u_29
        have hsfhr_28 : stW (VALW l9 f1 f2 f3 f4 f5) n0 n (fun _ => True) g0 g1 g4 f_33 f_34 f_35 := hr_28.2
        have hst : stW (VALW l9 f1 f2 f3 f4 f5) n0 n (fun _ => True) g0 g1 g4 f_33 f_34 f_35 := hst.tr hsfhr_28 (fun _ _ => trivial)
        have hmm : memW (VALW l9 f1 f2 f3 f4 f5) n0 n f_33 f_34 f_35 := hst.1
        have hflhr_28 : duT x3 (z_27.toInt64) (fun v => falP l9 f1 f2 f3 f4 f5 (VALW l9 f1 f2 f3 f4 f5) pa d z_4 x2 v ((fo, dy, mu) : duS) ((f_30, n_31, n_32) : duS)) ((f_30, n_31, n_32) : duS) := hr_28.1
        obtain ⟨hP1, hD1⟩ := hB
        rw [ht] at hP1
        obtain ⟨hP, hD⟩ := va_repl [(h0, .inr (2, [.ref la, .ref cl, .ref wo, .ref on, .int n_31, .int n_32, .int pa])), (on, .inl (T 1, 7, .inr (.inl f_30))), (wo, .inr (8, [.ref la, .ref cl, .ref p0, .ref p1, .ref p4, .int n])), (la, .inr (5, [.int (l9 0), .int (l9 1), .int (l9 2), .int (l9 3), .int (l9 4), .int (l9 5), .int (l9 6)])), (cl, .inr (1, [.int n0, .ref c1, .ref c2, .ref c3, .ref c4, .ref c5, .ref c6, .ref c7])), (c1, .inl (T 0, 24, .inl f1)), (c2, .inl (T 0, 24, .inl f2)), (c3, .inl (T 0, 24, .inl f3)), (c4, .inl (T 0, 24, .inl f4)), (c5, .inl (T 0, 24, .inl f5)), (p0, .inl (T 1, 676, .inr (.inl f_33))), (p1, .inl (T 1, 676, .inr (.inl f_34))), (p4, .inl (T 0, 672, .inl f_35))] hP hD [0, 1, 2, 3, 4, 5, 6, 7, 8, 9, 10, 11, 12] [0, 1, 2, 3, 4, 5, 6, 7, 8, 9, 10, 11, 12] rfl (by decide +kernel) rfl rfl rfl hk1 hP1
        clear hP1 hD1 hFc
        generalize H1 = H at hP hS ⊢
        refine lv_goto (tgt := 296) hx hb dX3_fall_136 (by decide +kernel) ?_
        exact W.vret hx hb hr (fun t ht hW => ⟨⟨(f_30, n_31, n_32, f_33, f_34, f_35), rfl, ⟨fal_3 (show mu.toInt = 0 from by omega) (by omega) hk9 (by rw [← ez_4, ← ez_27]; exact hflhr_28), hst⟩, by rw [ht]; exact hP.sub [0, 1, 2, 3, 4, 5, 6, 7, 8, 9, 10, 11, 12] rfl, hD.sub [0, 1, 2, 3, 4, 5, 6, 7, 8, 9, 10, 11, 12] (by decide +kernel) rfl⟩, hS.F ht⟩) hS.2.2 dX3_fall_296
      · refine W.eq (g2 := F0 m 43 ls [.ref (ad 4), .ref (av 13)]) (by rw [hk9]) ?_
        have hc9 : 0 ≤ z_4.toInt ∧ z_4.toInt < x1.toInt := by
          have h := (hok _ (in24 (x := x1) (by omega)).1).2.1 (by rw [hk9]; decide)
          have h2 := (in24 (x := x1) (by omega)).2
          rw [ez_4]
          omega
        refine vp_callSi (va_Run.run (va_runU (As := []) (rest := [.ref (av 13)]) ⟨hx, hb, hml, hown, hts⟩ (c_Jx29ce0_ordinal_8abf5 l D T ad sa av ta 4 (by decide +kernel)) (va_cwU 0 hts gX3_fall_Jx29ce0_ordinal_8abf5_u63X7 rfl rfl rfl rfl (by decide +kernel) ⟨(show _ ≤ (2 * (d + 1) + 75 : Nat) from by (try dsimp only); omega), (show _ ≤ (64 * (d + 1) + 2400 : Nat) from by (try dsimp only); omega)⟩) (pRk_VE (i := 4) (by decide +kernel) hP hE hV hS [] rfl) rfl rfl hl.1 rfl (lv_room (Nat.le_of_ble_eq_true rfl)) dX3_fall_43 ⟨Nat.le_of_ble_eq_true rfl, Nat.le_of_ble_eq_true rfl⟩)) (fun r_36 hr_36 => ?_)
        obtain rfl : (odT 4) = r_36 := (hr_36).symm
        refine va_ti (v := .int (swT 4)) hx hb hV.2.2.2.2.2.1 hS (odT_in (by decide +kernel)) (congrArg (fun z => Value.int (swT z)) (odT_at (by decide +kernel))) dX3_fall_46 ?_
        refine lv_topi (fun z_37 ez_37 => ?_)
        obtain rfl : z_37 = 5 := ez_37.trans (by decide +kernel)
        refine lv_tableIn (off := 92) (tgt := 139) hx hb dX3_fall_47 (by decide +kernel) (by decide +kernel) (by decide +kernel) (by decide +kernel) ?_
        refine lv_aload_n hx hb dX3_fall_139 rfl (lv_at hl 1 rfl) ?_
        refine lv_iload hx hb dX3_fall_140 (lv_at hl 0 rfl) ?_
        refine lv_iload_n hx hb dX3_fall_142 rfl (lv_at hl 3 rfl) ?_
        refine lv_lload_n hx hb dX3_fall_143 rfl (lv_at hl 4 rfl) ?_
        refine lv_aload_n hx hb dX3_fall_144 rfl (lv_at hl 1 rfl) ?_
        refine va_get (D := D) (ci := 2) (v := .ref la) (C := RX3) (T := TX3) (N := 7) hx hb hts in_X3_fall_X3 hown hE.1 hP 0 rfl rfl 0 (by decide +kernel) (hts (.fieldLink RX3 26 "ClauseBook$Falling" "lattice" "LClauseBook$Lattice;") (List.mem_of_getElem? (i := 8) rfl)) (fun _ h9 => h9) rfl dX3_fall_145 ?_
        refine lv_iload_n hx hb dX3_fall_148 rfl (lv_at hl 3 rfl) ?_
        refine lv_aload_n hx hb dX3_fall_149 rfl (lv_at hl 1 rfl) ?_
        refine va_get (D := D) (ci := 2) (v := .int pa) (C := RX3) (T := TX3) (N := 7) hx hb hts in_X3_fall_X3 hown hE.1 hP 0 rfl rfl 6 (by decide +kernel) (hts (.fieldLink RX3 23 "ClauseBook$Falling" "path" "I") (List.mem_of_getElem? (i := 9) rfl)) (fun _ h9 => h9) rfl dX3_fall_150 ?_
        refine lv_iload_n hx hb dX3_fall_153 rfl (lv_at hl 3 rfl) ?_
        refine vp_callSi (W.runS (As := [.int pa, .int x2]) (rest := [.int x2, .ref la, .long x3, .int x2, .int z_4, .ref h0]) ⟨hx, hb, hml, hown, hts⟩ (c_X8_spotOn l D T pa x2) (va_cwS 2 hts gX3_fall_X8_spotOn rfl rfl rfl hs_X8_spotOn ⟨(show _ ≤ (2 * (d + 1) + 75 : Nat) from by (try dsimp only); omega), (show _ ≤ (64 * (d + 1) + 2400 : Nat) from by (try dsimp only); omega)⟩) (pR_S hP hE [] rfl) rfl rfl hl.1 rfl (lv_room (Nat.le_of_ble_eq_true rfl)) dX3_fall_154 ⟨Nat.le_of_ble_eq_true rfl, Nat.le_of_ble_eq_true rfl⟩) (fun r_38 hr_38 => ?_)
        obtain rfl : (sp_bits (pa &&& ((1 <<< (x2 &&& 31)) - 1))) = r_38 := (hr_38).symm
        refine vp_callSi (W.runV (As := [.int x2, .int (sp_bits (pa &&& ((1 <<< (x2 &&& 31)) - 1)))]) (rest := [.long x3, .int x2, .int z_4, .ref h0]) ⟨hx, hb, hml, hown, hts⟩ (c_X8_priceAt l D T la [.int (l9 0), .int (l9 1), .int (l9 2), .int (l9 3), .int (l9 4), .int (l9 5), .int (l9 6)] x2 (sp_bits (pa &&& ((1 <<< (x2 &&& 31)) - 1))) (l9 0) (l9 1) (l9 2) rfl rfl rfl) (cwV 2 hts gX3_fall_X8_priceAt rfl rfl rfl hv_X8_priceAt ⟨(show _ ≤ (2 * (d + 1) + 75 : Nat) from by (try dsimp only); omega), (show _ ≤ (64 * (d + 1) + 2400 : Nat) from by (try dsimp only); omega)⟩) (pR_V (q := (RX8, TX8, 7)) (ci := 5) (q0 := 3) hP hE rfl rfl [3] rfl) rfl rfl hl.1 rfl (lv_room (Nat.le_of_ble_eq_true rfl)) dX3_fall_157 ⟨Nat.le_of_ble_eq_true rfl, Nat.le_of_ble_eq_true rfl⟩) (fun r_39 hr_39 => ?_)
        refine lv_i2l hx hb dX3_fall_160 rfl ?_
        have hFc := va_free (wc := [(h0, .inr (2, [.ref la, .ref cl, .ref wo, .ref on, .int dy, .int mu, .int pa])), (on, .inl (T 1, 7, .inr (.inl fo))), (wo, .inr (8, [.ref la, .ref cl, .ref p0, .ref p1, .ref p4, .int n])), (la, .inr (5, [.int (l9 0), .int (l9 1), .int (l9 2), .int (l9 3), .int (l9 4), .int (l9 5), .int (l9 6)])), (cl, .inr (1, [.int n0, .ref c1, .ref c2, .ref c3, .ref c4, .ref c5, .ref c6, .ref c7])), (c1, .inl (T 0, 24, .inl f1)), (c2, .inl (T 0, 24, .inl f2)), (c3, .inl (T 0, 24, .inl f3)), (c4, .inl (T 0, 24, .inl f4)), (c5, .inl (T 0, 24, .inl f5)), (p0, .inl (T 1, 676, .inr (.inl g0))), (p1, .inl (T 1, 676, .inr (.inl g1))), (p4, .inl (T 0, 672, .inl g4))]) hD hS hA [0, 1, 2, 3, 4, 5, 6, 7, 8, 9, 10, 11, 12] rfl
        refine va_callv (va_runV (As := [.int z_4, .int x2, .long x3, .long (r_39.toInt64)]) (rest := []) ⟨hx, hb, hml, hown, hts⟩ (s_X3_fallTimes l D T ad sa av ta _ h0 on dy mu pa fo wo la cl p0 p1 p4 n l9 n0 c1 c2 c3 c4 c5 c6 c7 f1 f2 f3 f4 f5 g0 g1 g4 d z_4 x2 x3 (r_39.toInt64) (by omega) (by omega) (by omega) hok (by omega) hmm hlq (by omega) hrec) (cwV 4 hts gX3_fall_X3_fallTimes rfl rfl rfl hv_X3_fallTimes ⟨(show _ ≤ (2 * (d + 1) + 75 : Nat) from by (try dsimp only); omega), (show _ ≤ (64 * (d + 1) + 2400 : Nat) from by (try dsimp only); omega)⟩) (pWk_V (q := (RX3, TX3, 7)) (ci := 2) (q0 := 0) hP hE hD hV hS hFc rfl rfl [0, 1, 2, 3, 4, 5, 6, 7, 8, 9, 10, 11, 12] (by decide +kernel) rfl rfl) rfl rfl hl.1 rfl (lv_room (Nat.le_of_ble_eq_true rfl)) dX3_fall_161 ⟨Nat.le_of_ble_eq_true rfl, Nat.le_of_ble_eq_true rfl⟩) hS (fun q _ h => hFc q h) hFc (fun u_41 t H1 locs ht hvm hr_40 hB hz1 hk1 hS => ?_)
        obtain ⟨f_42, n_43, n_44, f_45, f_46, f_47⟩ := u_41
        have hsfhr_40 : stW (VALW l9 f1 f2 f3 f4 f5) n0 n (fun _ => True) g0 g1 g4 f_45 f_46 f_47 := hr_40.2
        have hst : stW (VALW l9 f1 f2 f3 f4 f5) n0 n (fun _ => True) g0 g1 g4 f_45 f_46 f_47 := hst.tr hsfhr_40 (fun _ _ => trivial)
        have hmm : memW (VALW l9 f1 f2 f3 f4 f5) n0 n f_45 f_46 f_47 := hst.1
        have hflhr_40 : duT x3 (r_39.toInt64) (fun v => falP l9 f1 f2 f3 f4 f5 (VALW l9 f1 f2 f3 f4 f5) pa d z_4 x2 v ((fo, dy, mu) : duS) ((f_42, n_43, n_44) : duS)) ((f_42, n_43, n_44) : duS) := hr_40.1
        obtain ⟨hP1, hD1⟩ := hB
        rw [ht] at hP1
        obtain ⟨hP, hD⟩ := va_repl [(h0, .inr (2, [.ref la, .ref cl, .ref wo, .ref on, .int n_43, .int n_44, .int pa])), (on, .inl (T 1, 7, .inr (.inl f_42))), (wo, .inr (8, [.ref la, .ref cl, .ref p0, .ref p1, .ref p4, .int n])), (la, .inr (5, [.int (l9 0), .int (l9 1), .int (l9 2), .int (l9 3), .int (l9 4), .int (l9 5), .int (l9 6)])), (cl, .inr (1, [.int n0, .ref c1, .ref c2, .ref c3, .ref c4, .ref c5, .ref c6, .ref c7])), (c1, .inl (T 0, 24, .inl f1)), (c2, .inl (T 0, 24, .inl f2)), (c3, .inl (T 0, 24, .inl f3)), (c4, .inl (T 0, 24, .inl f4)), (c5, .inl (T 0, 24, .inl f5)), (p0, .inl (T 1, 676, .inr (.inl f_45))), (p1, .inl (T 1, 676, .inr (.inl f_46))), (p4, .inl (T 0, 672, .inl f_47))] hP hD [0, 1, 2, 3, 4, 5, 6, 7, 8, 9, 10, 11, 12] [0, 1, 2, 3, 4, 5, 6, 7, 8, 9, 10, 11, 12] rfl (by decide +kernel) rfl rfl rfl hk1 hP1
        clear hP1 hD1 hFc
        generalize H1 = H at hP hS ⊢
        refine lv_goto (tgt := 296) hx hb dX3_fall_164 (by decide +kernel) ?_
        exact W.vret hx hb hr (fun t ht hW => ⟨⟨(f_42, n_43, n_44, f_45, f_46, f_47), rfl, ⟨fal_4 (show mu.toInt = 0 from by omega) (by omega) hk9 (by rw [← ez_4, show prW l9 x2 (spW pa x2) = r_39 from hr_39.symm]; exact hflhr_40), hst⟩, by rw [ht]; exact hP.sub [0, 1, 2, 3, 4, 5, 6, 7, 8, 9, 10, 11, 12] rfl, hD.sub [0, 1, 2, 3, 4, 5, 6, 7, 8, 9, 10, 11, 12] (by decide +kernel) rfl⟩, hS.F ht⟩) hS.2.2 dX3_fall_296
      · refine W.eq (g2 := F0 m 43 ls [.ref (ad 5), .ref (av 13)]) (by rw [hk9]) ?_
        have hc9 : 0 ≤ z_4.toInt ∧ z_4.toInt < x1.toInt := by
          have h := (hok _ (in24 (x := x1) (by omega)).1).2.1 (by rw [hk9]; decide)
          have h2 := (in24 (x := x1) (by omega)).2
          rw [ez_4]
          omega
        have hd9 : 0 ≤ (f4 (x1.toNatClampNeg)).toInt ∧ (f4 (x1.toNatClampNeg)).toInt < x1.toInt := by
          have h := (hok _ (in24 (x := x1) (by omega)).1).2.2.1 (by rw [hk9]; decide)
          have h2 := (in24 (x := x1) (by omega)).2
          omega
        refine vp_callSi (va_Run.run (va_runU (As := []) (rest := [.ref (av 13)]) ⟨hx, hb, hml, hown, hts⟩ (c_Jx29ce0_ordinal_8abf5 l D T ad sa av ta 5 (by decide +kernel)) (va_cwU 0 hts gX3_fall_Jx29ce0_ordinal_8abf5_u63X7 rfl rfl rfl rfl (by decide +kernel) ⟨(show _ ≤ (2 * (d + 1) + 75 : Nat) from by (try dsimp only); omega), (show _ ≤ (64 * (d + 1) + 2400 : Nat) from by (try dsimp only); omega)⟩) (pRk_VE (i := 5) (by decide +kernel) hP hE hV hS [] rfl) rfl rfl hl.1 rfl (lv_room (Nat.le_of_ble_eq_true rfl)) dX3_fall_43 ⟨Nat.le_of_ble_eq_true rfl, Nat.le_of_ble_eq_true rfl⟩)) (fun r_48 hr_48 => ?_)
        obtain rfl : (odT 5) = r_48 := (hr_48).symm
        refine va_ti (v := .int (swT 5)) hx hb hV.2.2.2.2.2.1 hS (odT_in (by decide +kernel)) (congrArg (fun z => Value.int (swT z)) (odT_at (by decide +kernel))) dX3_fall_46 ?_
        refine lv_topi (fun z_49 ez_49 => ?_)
        obtain rfl : z_49 = 6 := ez_49.trans (by decide +kernel)
        refine lv_tableIn (off := 139) (tgt := 186) hx hb dX3_fall_47 (by decide +kernel) (by decide +kernel) (by decide +kernel) (by decide +kernel) ?_
        refine lv_aload_n hx hb dX3_fall_186 rfl (lv_at hl 1 rfl) ?_
        refine lv_iload hx hb dX3_fall_187 (lv_at hl 0 rfl) ?_
        refine lv_iload_n hx hb dX3_fall_189 rfl (lv_at hl 3 rfl) ?_
        refine lv_lload_n hx hb dX3_fall_190 rfl (lv_at hl 4 rfl) ?_
        have hFc := va_free (wc := [(h0, .inr (2, [.ref la, .ref cl, .ref wo, .ref on, .int dy, .int mu, .int pa])), (on, .inl (T 1, 7, .inr (.inl fo))), (wo, .inr (8, [.ref la, .ref cl, .ref p0, .ref p1, .ref p4, .int n])), (la, .inr (5, [.int (l9 0), .int (l9 1), .int (l9 2), .int (l9 3), .int (l9 4), .int (l9 5), .int (l9 6)])), (cl, .inr (1, [.int n0, .ref c1, .ref c2, .ref c3, .ref c4, .ref c5, .ref c6, .ref c7])), (c1, .inl (T 0, 24, .inl f1)), (c2, .inl (T 0, 24, .inl f2)), (c3, .inl (T 0, 24, .inl f3)), (c4, .inl (T 0, 24, .inl f4)), (c5, .inl (T 0, 24, .inl f5)), (p0, .inl (T 1, 676, .inr (.inl g0))), (p1, .inl (T 1, 676, .inr (.inl g1))), (p4, .inl (T 0, 672, .inl g4))]) hD hS hA [0, 1, 2, 3, 4, 5, 6, 7, 8, 9, 10, 11, 12] rfl
        refine va_callv (va_runV (As := [.int z_4, .int x2, .long x3]) (rest := []) ⟨hx, hb, hml, hown, hts⟩ (hrec _ h0 on dy mu pa fo wo la cl p0 p1 p4 n l9 n0 c1 c2 c3 c4 c5 c6 c7 f1 f2 f3 f4 f5 g0 g1 g4 z_4 x2 x3 (by omega) (by omega) (by omega) hok (by omega) hmm hlq (by omega)) (cwV 3 hts gX3_fall_X3_fall rfl rfl rfl hv_X3_fall ⟨(show _ ≤ (2 * (d + 1) + 75 : Nat) from by (try dsimp only); omega), (show _ ≤ (64 * (d + 1) + 2400 : Nat) from by (try dsimp only); omega)⟩) (pWk_V (q := (RX3, TX3, 7)) (ci := 2) (q0 := 0) hP hE hD hV hS hFc rfl rfl [0, 1, 2, 3, 4, 5, 6, 7, 8, 9, 10, 11, 12] (by decide +kernel) rfl rfl) rfl rfl hl.1 rfl (lv_room (Nat.le_of_ble_eq_true rfl)) dX3_fall_191 ⟨Nat.le_of_ble_eq_true rfl, Nat.le_of_ble_eq_true rfl⟩) hS (fun q _ h => hFc q h) hFc (fun u_51 t H1 locs ht hvm hr_50 hB hz1 hk1 hS => ?_)
        obtain ⟨f_52, n_53, n_54, f_55, f_56, f_57⟩ := u_51
        have hsfhr_50 : stW (VALW l9 f1 f2 f3 f4 f5) n0 n (fun _ => True) g0 g1 g4 f_55 f_56 f_57 := hr_50.2
        have hst : stW (VALW l9 f1 f2 f3 f4 f5) n0 n (fun _ => True) g0 g1 g4 f_55 f_56 f_57 := hst.tr hsfhr_50 (fun _ _ => trivial)
        have hmm : memW (VALW l9 f1 f2 f3 f4 f5) n0 n f_55 f_56 f_57 := hst.1
        have hflhr_50 : falP l9 f1 f2 f3 f4 f5 (VALW l9 f1 f2 f3 f4 f5) pa d z_4 x2 x3 ((fo, dy, mu) : duS) ((f_52, n_53, n_54) : duS) := hr_50.1
        obtain ⟨hP1, hD1⟩ := hB
        rw [ht] at hP1
        obtain ⟨hP, hD⟩ := va_repl [(h0, .inr (2, [.ref la, .ref cl, .ref wo, .ref on, .int n_53, .int n_54, .int pa])), (on, .inl (T 1, 7, .inr (.inl f_52))), (wo, .inr (8, [.ref la, .ref cl, .ref p0, .ref p1, .ref p4, .int n])), (la, .inr (5, [.int (l9 0), .int (l9 1), .int (l9 2), .int (l9 3), .int (l9 4), .int (l9 5), .int (l9 6)])), (cl, .inr (1, [.int n0, .ref c1, .ref c2, .ref c3, .ref c4, .ref c5, .ref c6, .ref c7])), (c1, .inl (T 0, 24, .inl f1)), (c2, .inl (T 0, 24, .inl f2)), (c3, .inl (T 0, 24, .inl f3)), (c4, .inl (T 0, 24, .inl f4)), (c5, .inl (T 0, 24, .inl f5)), (p0, .inl (T 1, 676, .inr (.inl f_55))), (p1, .inl (T 1, 676, .inr (.inl f_56))), (p4, .inl (T 0, 672, .inl f_57))] hP hD [0, 1, 2, 3, 4, 5, 6, 7, 8, 9, 10, 11, 12] [0, 1, 2, 3, 4, 5, 6, 7, 8, 9, 10, 11, 12] rfl (by decide +kernel) rfl rfl rfl hk1 hP1
        clear hP1 hD1 hFc
        generalize H1 = H at hP hS ⊢
        refine lv_aload_n hx hb dX3_fall_194 rfl (lv_at hl 1 rfl) ?_
        refine lv_aload_n hx hb dX3_fall_195 rfl (lv_at hl 1 rfl) ?_
        refine va_get (D := D) (ci := 2) (v := .ref cl) (C := RX3) (T := TX3) (N := 7) hx hb hts in_X3_fall_X3 hown hE.1 hP 0 rfl rfl 1 (by decide +kernel) (hts (.fieldLink RX3 30 "ClauseBook$Falling" "clauses" "LClauseBook$Clauses;") (List.mem_of_getElem? (i := 2) rfl)) (fun _ h9 => h9) rfl dX3_fall_196 ?_
        refine va_get (D := D) (ci := 1) (v := .ref c4) (C := RX2) (T := TX2) (N := 8) hx hb hts in_X3_fall_X2 hown hE.1 hP 4 rfl rfl 4 (by decide +kernel) (hts (.fieldLink RX3 91 "ClauseBook$Clauses" "d" "[I") (List.mem_of_getElem? (i := 10) rfl)) (fun _ h9 => h9) rfl dX3_fall_199 ?_
        refine lv_iload_n hx hb dX3_fall_202 rfl (lv_at hl 2 rfl) ?_
        refine va_iald hx hb hE.1 hP 8 0 rfl rfl (by rw [vp_in_iff]; first | omega | (subst_vars; omega)) dX3_fall_203 ?_
        refine lv_topi (fun z_58 ez_58 => ?_)
        have hzz_58 : 0 ≤ z_58.toInt ∧ z_58.toInt < x1.toInt := by rw [ez_58]; exact hd9
        refine lv_iload_n hx hb dX3_fall_204 rfl (lv_at hl 3 rfl) ?_
        refine lv_lload_n hx hb dX3_fall_205 rfl (lv_at hl 4 rfl) ?_
        have hFc := va_free (wc := [(h0, .inr (2, [.ref la, .ref cl, .ref wo, .ref on, .int n_53, .int n_54, .int pa])), (on, .inl (T 1, 7, .inr (.inl f_52))), (wo, .inr (8, [.ref la, .ref cl, .ref p0, .ref p1, .ref p4, .int n])), (la, .inr (5, [.int (l9 0), .int (l9 1), .int (l9 2), .int (l9 3), .int (l9 4), .int (l9 5), .int (l9 6)])), (cl, .inr (1, [.int n0, .ref c1, .ref c2, .ref c3, .ref c4, .ref c5, .ref c6, .ref c7])), (c1, .inl (T 0, 24, .inl f1)), (c2, .inl (T 0, 24, .inl f2)), (c3, .inl (T 0, 24, .inl f3)), (c4, .inl (T 0, 24, .inl f4)), (c5, .inl (T 0, 24, .inl f5)), (p0, .inl (T 1, 676, .inr (.inl f_55))), (p1, .inl (T 1, 676, .inr (.inl f_56))), (p4, .inl (T 0, 672, .inl f_57))]) hD hS hA [0, 1, 2, 3, 4, 5, 6, 7, 8, 9, 10, 11, 12] rfl
        refine va_callv (va_runV (As := [.int z_58, .int x2, .long x3]) (rest := []) ⟨hx, hb, hml, hown, hts⟩ (hrec _ h0 on n_53 n_54 pa f_52 wo la cl p0 p1 p4 n l9 n0 c1 c2 c3 c4 c5 c6 c7 f1 f2 f3 f4 f5 f_55 f_56 f_57 z_58 x2 x3 (by omega) (by omega) (by omega) hok (by omega) hmm hlq (by omega)) (cwV 3 hts gX3_fall_X3_fall rfl rfl rfl hv_X3_fall ⟨(show _ ≤ (2 * (d + 1) + 75 : Nat) from by (try dsimp only); omega), (show _ ≤ (64 * (d + 1) + 2400 : Nat) from by (try dsimp only); omega)⟩) (pWk_V (q := (RX3, TX3, 7)) (ci := 2) (q0 := 0) hP hE hD hV hS hFc rfl rfl [0, 1, 2, 3, 4, 5, 6, 7, 8, 9, 10, 11, 12] (by decide +kernel) rfl rfl) rfl rfl hl.1 rfl (lv_room (Nat.le_of_ble_eq_true rfl)) dX3_fall_206 ⟨Nat.le_of_ble_eq_true rfl, Nat.le_of_ble_eq_true rfl⟩) hS (fun q _ h => hFc q h) hFc (fun u_60 t H1 locs ht hvm hr_59 hB hz1 hk1 hS => ?_)
        obtain ⟨f_61, n_62, n_63, f_64, f_65, f_66⟩ := u_60
        have hsfhr_59 : stW (VALW l9 f1 f2 f3 f4 f5) n0 n (fun _ => True) f_55 f_56 f_57 f_64 f_65 f_66 := hr_59.2
        have hst : stW (VALW l9 f1 f2 f3 f4 f5) n0 n (fun _ => True) g0 g1 g4 f_64 f_65 f_66 := hst.tr hsfhr_59 (fun _ _ => trivial)
        have hmm : memW (VALW l9 f1 f2 f3 f4 f5) n0 n f_64 f_65 f_66 := hst.1
        have hflhr_59 : falP l9 f1 f2 f3 f4 f5 (VALW l9 f1 f2 f3 f4 f5) pa d z_58 x2 x3 ((f_52, n_53, n_54) : duS) ((f_61, n_62, n_63) : duS) := hr_59.1
        obtain ⟨hP1, hD1⟩ := hB
        rw [ht] at hP1
        obtain ⟨hP, hD⟩ := va_repl [(h0, .inr (2, [.ref la, .ref cl, .ref wo, .ref on, .int n_62, .int n_63, .int pa])), (on, .inl (T 1, 7, .inr (.inl f_61))), (wo, .inr (8, [.ref la, .ref cl, .ref p0, .ref p1, .ref p4, .int n])), (la, .inr (5, [.int (l9 0), .int (l9 1), .int (l9 2), .int (l9 3), .int (l9 4), .int (l9 5), .int (l9 6)])), (cl, .inr (1, [.int n0, .ref c1, .ref c2, .ref c3, .ref c4, .ref c5, .ref c6, .ref c7])), (c1, .inl (T 0, 24, .inl f1)), (c2, .inl (T 0, 24, .inl f2)), (c3, .inl (T 0, 24, .inl f3)), (c4, .inl (T 0, 24, .inl f4)), (c5, .inl (T 0, 24, .inl f5)), (p0, .inl (T 1, 676, .inr (.inl f_64))), (p1, .inl (T 1, 676, .inr (.inl f_65))), (p4, .inl (T 0, 672, .inl f_66))] hP hD [0, 1, 2, 3, 4, 5, 6, 7, 8, 9, 10, 11, 12] [0, 1, 2, 3, 4, 5, 6, 7, 8, 9, 10, 11, 12] rfl (by decide +kernel) rfl rfl rfl hk1 hP1
        clear hP1 hD1 hFc
        generalize H1 = H at hP hS ⊢
        refine lv_goto (tgt := 296) hx hb dX3_fall_209 (by decide +kernel) ?_
        exact W.vret hx hb hr (fun t ht hW => ⟨⟨(f_61, n_62, n_63, f_64, f_65, f_66), rfl, ⟨fal_5 (show mu.toInt = 0 from by omega) (by omega) hk9 (by rw [← ez_4]; exact hflhr_50) (by rw [← ez_58]; exact hflhr_59), hst⟩, by rw [ht]; exact hP.sub [0, 1, 2, 3, 4, 5, 6, 7, 8, 9, 10, 11, 12] rfl, hD.sub [0, 1, 2, 3, 4, 5, 6, 7, 8, 9, 10, 11, 12] (by decide +kernel) rfl⟩, hS.F ht⟩) hS.2.2 dX3_fall_296
      · refine W.eq (g2 := F0 m 43 ls [.ref (ad 6), .ref (av 13)]) (by rw [hk9]) ?_
        have hc9 : 0 ≤ z_4.toInt ∧ z_4.toInt < x1.toInt := by
          have h := (hok _ (in24 (x := x1) (by omega)).1).2.1 (by rw [hk9]; decide)
          have h2 := (in24 (x := x1) (by omega)).2
          rw [ez_4]
          omega
        have hd9 : 0 ≤ (f4 (x1.toNatClampNeg)).toInt ∧ (f4 (x1.toNatClampNeg)).toInt < x1.toInt := by
          have h := (hok _ (in24 (x := x1) (by omega)).1).2.2.1 (by rw [hk9]; decide)
          have h2 := (in24 (x := x1) (by omega)).2
          omega
        refine vp_callSi (va_Run.run (va_runU (As := []) (rest := [.ref (av 13)]) ⟨hx, hb, hml, hown, hts⟩ (c_Jx29ce0_ordinal_8abf5 l D T ad sa av ta 6 (by decide +kernel)) (va_cwU 0 hts gX3_fall_Jx29ce0_ordinal_8abf5_u63X7 rfl rfl rfl rfl (by decide +kernel) ⟨(show _ ≤ (2 * (d + 1) + 75 : Nat) from by (try dsimp only); omega), (show _ ≤ (64 * (d + 1) + 2400 : Nat) from by (try dsimp only); omega)⟩) (pRk_VE (i := 6) (by decide +kernel) hP hE hV hS [] rfl) rfl rfl hl.1 rfl (lv_room (Nat.le_of_ble_eq_true rfl)) dX3_fall_43 ⟨Nat.le_of_ble_eq_true rfl, Nat.le_of_ble_eq_true rfl⟩)) (fun r_67 hr_67 => ?_)
        obtain rfl : (odT 6) = r_67 := (hr_67).symm
        refine va_ti (v := .int (swT 6)) hx hb hV.2.2.2.2.2.1 hS (odT_in (by decide +kernel)) (congrArg (fun z => Value.int (swT z)) (odT_at (by decide +kernel))) dX3_fall_46 ?_
        refine lv_topi (fun z_68 ez_68 => ?_)
        obtain rfl : z_68 = 0 := ez_68.trans (by decide +kernel)
        refine lv_tableOut (tgt := 254) hx hb dX3_fall_47 (by decide +kernel) (by decide +kernel) ?_
        refine lv_aload_n hx hb dX3_fall_254 rfl (lv_at hl 1 rfl) ?_
        refine va_get (D := D) (ci := 2) (v := .ref wo) (C := RX3) (T := TX3) (N := 7) hx hb hts in_X3_fall_X3 hown hE.1 hP 0 rfl rfl 2 (by decide +kernel) (hts (.fieldLink RX3 34 "ClauseBook$Falling" "worth" "LClauseBook$Worth;") (List.mem_of_getElem? (i := 11) rfl)) (fun _ h9 => h9) rfl dX3_fall_255 ?_
        refine lv_iload_n hx hb dX3_fall_258 rfl (lv_at hl 2 rfl) ?_
        refine lv_iload_n hx hb dX3_fall_259 rfl (lv_at hl 3 rfl) ?_
        refine lv_aload_n hx hb dX3_fall_260 rfl (lv_at hl 1 rfl) ?_
        refine va_get (D := D) (ci := 2) (v := .int pa) (C := RX3) (T := TX3) (N := 7) hx hb hts in_X3_fall_X3 hown hE.1 hP 0 rfl rfl 6 (by decide +kernel) (hts (.fieldLink RX3 23 "ClauseBook$Falling" "path" "I") (List.mem_of_getElem? (i := 9) rfl)) (fun _ h9 => h9) rfl dX3_fall_261 ?_
        refine lv_iload_n hx hb dX3_fall_264 rfl (lv_at hl 3 rfl) ?_
        refine vp_callSi (W.runS (As := [.int pa, .int x2]) (rest := [.int x2, .int x1, .ref wo]) ⟨hx, hb, hml, hown, hts⟩ (c_X8_spotOn l D T pa x2) (va_cwS 2 hts gX3_fall_X8_spotOn rfl rfl rfl hs_X8_spotOn ⟨(show _ ≤ (2 * (d + 1) + 75 : Nat) from by (try dsimp only); omega), (show _ ≤ (64 * (d + 1) + 2400 : Nat) from by (try dsimp only); omega)⟩) (pR_S hP hE [] rfl) rfl rfl hl.1 rfl (lv_room (Nat.le_of_ble_eq_true rfl)) dX3_fall_265 ⟨Nat.le_of_ble_eq_true rfl, Nat.le_of_ble_eq_true rfl⟩) (fun r_69 hr_69 => ?_)
        obtain rfl : (sp_bits (pa &&& ((1 <<< (x2 &&& 31)) - 1))) = r_69 := (hr_69).symm
        refine lv_topi (fun z_70 ez_70 => ?_)
        have hsp9 : 0 ≤ z_70.toInt ∧ z_70.toInt ≤ x2.toInt := by rw [ez_70]; exact spot_in (by omega) (by omega)
        have hFc := va_free (wc := [(wo, .inr (8, [.ref la, .ref cl, .ref p0, .ref p1, .ref p4, .int n])), (la, .inr (5, [.int (l9 0), .int (l9 1), .int (l9 2), .int (l9 3), .int (l9 4), .int (l9 5), .int (l9 6)])), (cl, .inr (1, [.int n0, .ref c1, .ref c2, .ref c3, .ref c4, .ref c5, .ref c6, .ref c7])), (c1, .inl (T 0, 24, .inl f1)), (c2, .inl (T 0, 24, .inl f2)), (c3, .inl (T 0, 24, .inl f3)), (c4, .inl (T 0, 24, .inl f4)), (c5, .inl (T 0, 24, .inl f5)), (p0, .inl (T 1, 676, .inr (.inl g0))), (p1, .inl (T 1, 676, .inr (.inl g1))), (p4, .inl (T 0, 672, .inl g4))]) hD hS hA [2, 3, 4, 5, 6, 7, 8, 9, 10, 11, 12] rfl
        refine va_calli (va_runV (As := [.int x1, .int x2, .int z_70]) (rest := []) ⟨hx, hb, hml, hown, hts⟩ (s_X11_picked l D T ad sa av ta _ wo la cl p0 p1 p4 n l9 n0 c1 c2 c3 c4 c5 c6 c7 f1 f2 f3 f4 f5 g0 g1 g4 30 x1 x2 z_70 (by omega) (by omega) (by omega) hok (by omega) hmm hlq (by omega) (by omega) (cS_all l D T ad sa av ta 30)) (cwV 3 hts gX3_fall_X11_picked rfl rfl rfl hv_X11_picked ⟨(show _ ≤ (2 * (d + 1) + 75 : Nat) from by (try dsimp only); omega), (show _ ≤ (64 * (d + 1) + 2400 : Nat) from by (try dsimp only); omega)⟩) (pWk_V (q := (RX11, TX11, 6)) (ci := 8) (q0 := 2) hP hE hD hV hS hFc rfl rfl [2, 3, 4, 5, 6, 7, 8, 9, 10, 11, 12] (by decide +kernel) rfl rfl) rfl rfl hl.1 rfl (lv_room (Nat.le_of_ble_eq_true rfl)) dX3_fall_268 ⟨Nat.le_of_ble_eq_true rfl, Nat.le_of_ble_eq_true rfl⟩) hS (fun q _ h => hFc q h) hFc (fun r_71 u_72 t H1 locs ht hvm hr_71 hB hz1 hk1 hS => ?_)
        obtain ⟨f_73, f_74, f_75⟩ := u_72
        obtain ⟨hqr_71, hpk_r_71, hstr_71⟩ := hr_71
        have hqr_71 : r_71.toInt = -5 ∨ (0 ≤ r_71.toInt ∧ r_71.toInt < x1.toInt) := hqr_71
        have hpk_r_71 : r_71 = pickW l9 f1 f2 f3 f4 f5 (VALW l9 f1 f2 f3 f4 f5) x1 x2 z_70 := hpk_r_71
        have hsr_71 : stW (VALW l9 f1 f2 f3 f4 f5) n0 n (rgP x1) g0 g1 g4 f_73 f_74 f_75 := hstr_71
        have hst : stW (VALW l9 f1 f2 f3 f4 f5) n0 n (fun _ => True) g0 g1 g4 f_73 f_74 f_75 := hst.tr hsr_71 (fun _ _ => trivial)
        have hmm : memW (VALW l9 f1 f2 f3 f4 f5) n0 n f_73 f_74 f_75 := hst.1
        obtain ⟨hP1, hD1⟩ := hB
        rw [ht] at hP1
        obtain ⟨hP, hD⟩ := va_repl [(h0, .inr (2, [.ref la, .ref cl, .ref wo, .ref on, .int dy, .int mu, .int pa])), (on, .inl (T 1, 7, .inr (.inl fo))), (wo, .inr (8, [.ref la, .ref cl, .ref p0, .ref p1, .ref p4, .int n])), (la, .inr (5, [.int (l9 0), .int (l9 1), .int (l9 2), .int (l9 3), .int (l9 4), .int (l9 5), .int (l9 6)])), (cl, .inr (1, [.int n0, .ref c1, .ref c2, .ref c3, .ref c4, .ref c5, .ref c6, .ref c7])), (c1, .inl (T 0, 24, .inl f1)), (c2, .inl (T 0, 24, .inl f2)), (c3, .inl (T 0, 24, .inl f3)), (c4, .inl (T 0, 24, .inl f4)), (c5, .inl (T 0, 24, .inl f5)), (p0, .inl (T 1, 676, .inr (.inl f_73))), (p1, .inl (T 1, 676, .inr (.inl f_74))), (p4, .inl (T 0, 672, .inl f_75))] hP hD [2, 3, 4, 5, 6, 7, 8, 9, 10, 11, 12] [2, 3, 4, 5, 6, 7, 8, 9, 10, 11, 12] rfl (by decide +kernel) rfl rfl rfl hk1 hP1
        clear hP1 hD1 hFc
        generalize H1 = H at hP hS ⊢
        refine lv_istore (lv' := [(7, .int r_71), (5, .int z_4), (0, .ref h0), (1, .int x1), (2, .int x2), (3, .long x3)]) hx hb dX3_fall_271 hl (by decide +kernel) rfl (fun ls hl => ?_)
        refine lv_iload hx hb dX3_fall_273 (lv_at hl 0 rfl) ?_
        refine lv_bipush (v := (-5)) hx hb dX3_fall_275 (by decide +kernel) ?_
        refine lv_icmp_ne (tgt := 288) hx hb dX3_fall_277 (by decide +kernel) (fun c_76 => ?_) (fun c_76 => ?_)
        · rw [fa_eq] at c_76
          try rw [ti_n5] at c_76
          refine lv_aload_n hx hb dX3_fall_288 rfl (lv_at hl 2 rfl) ?_
          refine lv_iload hx hb dX3_fall_289 (lv_at hl 0 rfl) ?_
          refine lv_iload_n hx hb dX3_fall_291 rfl (lv_at hl 4 rfl) ?_
          refine lv_lload_n hx hb dX3_fall_292 rfl (lv_at hl 5 rfl) ?_
          have hFc := va_free (wc := [(h0, .inr (2, [.ref la, .ref cl, .ref wo, .ref on, .int dy, .int mu, .int pa])), (on, .inl (T 1, 7, .inr (.inl fo))), (wo, .inr (8, [.ref la, .ref cl, .ref p0, .ref p1, .ref p4, .int n])), (la, .inr (5, [.int (l9 0), .int (l9 1), .int (l9 2), .int (l9 3), .int (l9 4), .int (l9 5), .int (l9 6)])), (cl, .inr (1, [.int n0, .ref c1, .ref c2, .ref c3, .ref c4, .ref c5, .ref c6, .ref c7])), (c1, .inl (T 0, 24, .inl f1)), (c2, .inl (T 0, 24, .inl f2)), (c3, .inl (T 0, 24, .inl f3)), (c4, .inl (T 0, 24, .inl f4)), (c5, .inl (T 0, 24, .inl f5)), (p0, .inl (T 1, 676, .inr (.inl f_73))), (p1, .inl (T 1, 676, .inr (.inl f_74))), (p4, .inl (T 0, 672, .inl f_75))]) hD hS hA [0, 1, 2, 3, 4, 5, 6, 7, 8, 9, 10, 11, 12] rfl
          refine va_callv (va_runV (As := [.int r_71, .int x2, .long x3]) (rest := []) ⟨hx, hb, hml, hown, hts⟩ (hrec _ h0 on dy mu pa fo wo la cl p0 p1 p4 n l9 n0 c1 c2 c3 c4 c5 c6 c7 f1 f2 f3 f4 f5 f_73 f_74 f_75 r_71 x2 x3 (by omega) (by omega) (by omega) hok (by omega) hmm hlq (by omega)) (cwV 3 hts gX3_fall_X3_fall rfl rfl rfl hv_X3_fall ⟨(show _ ≤ (2 * (d + 1) + 75 : Nat) from by (try dsimp only); omega), (show _ ≤ (64 * (d + 1) + 2400 : Nat) from by (try dsimp only); omega)⟩) (pWk_V (q := (RX3, TX3, 7)) (ci := 2) (q0 := 0) hP hE hD hV hS hFc rfl rfl [0, 1, 2, 3, 4, 5, 6, 7, 8, 9, 10, 11, 12] (by decide +kernel) rfl rfl) rfl rfl hl.1 rfl (lv_room (Nat.le_of_ble_eq_true rfl)) dX3_fall_293 ⟨Nat.le_of_ble_eq_true rfl, Nat.le_of_ble_eq_true rfl⟩) hS (fun q _ h => hFc q h) hFc (fun u_78 t H1 locs ht hvm hr_77 hB hz1 hk1 hS => ?_)
          obtain ⟨f_79, n_80, n_81, f_82, f_83, f_84⟩ := u_78
          have hsfhr_77 : stW (VALW l9 f1 f2 f3 f4 f5) n0 n (fun _ => True) f_73 f_74 f_75 f_82 f_83 f_84 := hr_77.2
          have hst : stW (VALW l9 f1 f2 f3 f4 f5) n0 n (fun _ => True) g0 g1 g4 f_82 f_83 f_84 := hst.tr hsfhr_77 (fun _ _ => trivial)
          have hmm : memW (VALW l9 f1 f2 f3 f4 f5) n0 n f_82 f_83 f_84 := hst.1
          have hflhr_77 : falP l9 f1 f2 f3 f4 f5 (VALW l9 f1 f2 f3 f4 f5) pa d r_71 x2 x3 ((fo, dy, mu) : duS) ((f_79, n_80, n_81) : duS) := hr_77.1
          obtain ⟨hP1, hD1⟩ := hB
          rw [ht] at hP1
          obtain ⟨hP, hD⟩ := va_repl [(h0, .inr (2, [.ref la, .ref cl, .ref wo, .ref on, .int n_80, .int n_81, .int pa])), (on, .inl (T 1, 7, .inr (.inl f_79))), (wo, .inr (8, [.ref la, .ref cl, .ref p0, .ref p1, .ref p4, .int n])), (la, .inr (5, [.int (l9 0), .int (l9 1), .int (l9 2), .int (l9 3), .int (l9 4), .int (l9 5), .int (l9 6)])), (cl, .inr (1, [.int n0, .ref c1, .ref c2, .ref c3, .ref c4, .ref c5, .ref c6, .ref c7])), (c1, .inl (T 0, 24, .inl f1)), (c2, .inl (T 0, 24, .inl f2)), (c3, .inl (T 0, 24, .inl f3)), (c4, .inl (T 0, 24, .inl f4)), (c5, .inl (T 0, 24, .inl f5)), (p0, .inl (T 1, 676, .inr (.inl f_82))), (p1, .inl (T 1, 676, .inr (.inl f_83))), (p4, .inl (T 0, 672, .inl f_84))] hP hD [0, 1, 2, 3, 4, 5, 6, 7, 8, 9, 10, 11, 12] [0, 1, 2, 3, 4, 5, 6, 7, 8, 9, 10, 11, 12] rfl (by decide +kernel) rfl rfl rfl hk1 hP1
          clear hP1 hD1 hFc
          generalize H1 = H at hP hS ⊢
          exact W.vret hx hb hr (fun t ht hW => ⟨⟨(f_79, n_80, n_81, f_82, f_83, f_84), rfl, ⟨fal_p (show mu.toInt = 0 from by omega) (by omega) (by rw [hk9]; decide) (by rw [show spW pa x2 = z_70 from ez_70.symm, ← hpk_r_71]; exact ⟨(fun q9 => absurd q9 (by omega)), (fun _ => hflhr_77)⟩), hst⟩, by rw [ht]; exact hP.sub [0, 1, 2, 3, 4, 5, 6, 7, 8, 9, 10, 11, 12] rfl, hD.sub [0, 1, 2, 3, 4, 5, 6, 7, 8, 9, 10, 11, 12] (by decide +kernel) rfl⟩, hS.F ht⟩) hS.2.2 dX3_fall_296
        · rw [fa_eq] at c_76
          try rw [ti_n5] at c_76
          refine lv_aload_n hx hb dX3_fall_280 rfl (lv_at hl 2 rfl) ?_
          refine lv_iconst (v := 1) hx hb dX3_fall_281 (by decide +kernel) ?_
          refine va_put (D := D) (ci := 2) (v := .int 1) (ty := .boolean) (C := RX3) (T := TX3) (N := 7) hx hb hts in_X3_fall_X3 tyX3 tyX3_ok nmX3 hown hE.1 hP hD hS 0 rfl rfl 5 (by decide +kernel) (hts (.fieldLink RX3 19 "ClauseBook$Falling" "much" "Z") (List.mem_of_getElem? (i := 1) rfl)) (fun _ h9 => h9) rfl (by decide +kernel) rfl rfl (Nat.le_of_ble_eq_true rfl) dX3_fall_282 (fun H locs hP hD hS => ?_)
          obtain ⟨hP, hD⟩ := wPD [(h0, .inr (2, [.ref la, .ref cl, .ref wo, .ref on, .int dy, .int 1, .int pa])), (on, .inl (T 1, 7, .inr (.inl fo))), (wo, .inr (8, [.ref la, .ref cl, .ref p0, .ref p1, .ref p4, .int n])), (la, .inr (5, [.int (l9 0), .int (l9 1), .int (l9 2), .int (l9 3), .int (l9 4), .int (l9 5), .int (l9 6)])), (cl, .inr (1, [.int n0, .ref c1, .ref c2, .ref c3, .ref c4, .ref c5, .ref c6, .ref c7])), (c1, .inl (T 0, 24, .inl f1)), (c2, .inl (T 0, 24, .inl f2)), (c3, .inl (T 0, 24, .inl f3)), (c4, .inl (T 0, 24, .inl f4)), (c5, .inl (T 0, 24, .inl f5)), (p0, .inl (T 1, 676, .inr (.inl f_73))), (p1, .inl (T 1, 676, .inr (.inl f_74))), (p4, .inl (T 0, 672, .inl f_75))] hP hD rfl
          refine lv_goto (tgt := 296) hx hb dX3_fall_285 (by decide +kernel) ?_
          exact W.vret hx hb hr (fun t ht hW => ⟨⟨(fo, dy, 1, f_73, f_74, f_75), rfl, ⟨fal_p (show mu.toInt = 0 from by omega) (by omega) (by rw [hk9]; decide) (by rw [show spW pa x2 = z_70 from ez_70.symm, ← hpk_r_71]; exact ⟨(fun _ => (show ¬ (1 : Int32).toInt = 0 from by decide)), (fun q9 => absurd (by omega) q9)⟩), hst⟩, by rw [ht]; exact hP.sub [0, 1, 2, 3, 4, 5, 6, 7, 8, 9, 10, 11, 12] rfl, hD.sub [0, 1, 2, 3, 4, 5, 6, 7, 8, 9, 10, 11, 12] (by decide +kernel) rfl⟩, hS.F ht⟩) hS.2.2 dX3_fall_296
      · refine W.eq (g2 := F0 m 43 ls [.ref (ad 7), .ref (av 13)]) (by rw [hk9]) ?_
        have hc9 : 0 ≤ z_4.toInt ∧ z_4.toInt < x1.toInt := by
          have h := (hok _ (in24 (x := x1) (by omega)).1).2.1 (by rw [hk9]; decide)
          have h2 := (in24 (x := x1) (by omega)).2
          rw [ez_4]
          omega
        have hd9 : 0 ≤ (f4 (x1.toNatClampNeg)).toInt ∧ (f4 (x1.toNatClampNeg)).toInt < x1.toInt := by
          have h := (hok _ (in24 (x := x1) (by omega)).1).2.2.1 (by rw [hk9]; decide)
          have h2 := (in24 (x := x1) (by omega)).2
          omega
        refine vp_callSi (va_Run.run (va_runU (As := []) (rest := [.ref (av 13)]) ⟨hx, hb, hml, hown, hts⟩ (c_Jx29ce0_ordinal_8abf5 l D T ad sa av ta 7 (by decide +kernel)) (va_cwU 0 hts gX3_fall_Jx29ce0_ordinal_8abf5_u63X7 rfl rfl rfl rfl (by decide +kernel) ⟨(show _ ≤ (2 * (d + 1) + 75 : Nat) from by (try dsimp only); omega), (show _ ≤ (64 * (d + 1) + 2400 : Nat) from by (try dsimp only); omega)⟩) (pRk_VE (i := 7) (by decide +kernel) hP hE hV hS [] rfl) rfl rfl hl.1 rfl (lv_room (Nat.le_of_ble_eq_true rfl)) dX3_fall_43 ⟨Nat.le_of_ble_eq_true rfl, Nat.le_of_ble_eq_true rfl⟩)) (fun r_85 hr_85 => ?_)
        obtain rfl : (odT 7) = r_85 := (hr_85).symm
        refine va_ti (v := .int (swT 7)) hx hb hV.2.2.2.2.2.1 hS (odT_in (by decide +kernel)) (congrArg (fun z => Value.int (swT z)) (odT_at (by decide +kernel))) dX3_fall_46 ?_
        refine lv_topi (fun z_86 ez_86 => ?_)
        obtain rfl : z_86 = 0 := ez_86.trans (by decide +kernel)
        refine lv_tableOut (tgt := 254) hx hb dX3_fall_47 (by decide +kernel) (by decide +kernel) ?_
        refine lv_aload_n hx hb dX3_fall_254 rfl (lv_at hl 1 rfl) ?_
        refine va_get (D := D) (ci := 2) (v := .ref wo) (C := RX3) (T := TX3) (N := 7) hx hb hts in_X3_fall_X3 hown hE.1 hP 0 rfl rfl 2 (by decide +kernel) (hts (.fieldLink RX3 34 "ClauseBook$Falling" "worth" "LClauseBook$Worth;") (List.mem_of_getElem? (i := 11) rfl)) (fun _ h9 => h9) rfl dX3_fall_255 ?_
        refine lv_iload_n hx hb dX3_fall_258 rfl (lv_at hl 2 rfl) ?_
        refine lv_iload_n hx hb dX3_fall_259 rfl (lv_at hl 3 rfl) ?_
        refine lv_aload_n hx hb dX3_fall_260 rfl (lv_at hl 1 rfl) ?_
        refine va_get (D := D) (ci := 2) (v := .int pa) (C := RX3) (T := TX3) (N := 7) hx hb hts in_X3_fall_X3 hown hE.1 hP 0 rfl rfl 6 (by decide +kernel) (hts (.fieldLink RX3 23 "ClauseBook$Falling" "path" "I") (List.mem_of_getElem? (i := 9) rfl)) (fun _ h9 => h9) rfl dX3_fall_261 ?_
        refine lv_iload_n hx hb dX3_fall_264 rfl (lv_at hl 3 rfl) ?_
        refine vp_callSi (W.runS (As := [.int pa, .int x2]) (rest := [.int x2, .int x1, .ref wo]) ⟨hx, hb, hml, hown, hts⟩ (c_X8_spotOn l D T pa x2) (va_cwS 2 hts gX3_fall_X8_spotOn rfl rfl rfl hs_X8_spotOn ⟨(show _ ≤ (2 * (d + 1) + 75 : Nat) from by (try dsimp only); omega), (show _ ≤ (64 * (d + 1) + 2400 : Nat) from by (try dsimp only); omega)⟩) (pR_S hP hE [] rfl) rfl rfl hl.1 rfl (lv_room (Nat.le_of_ble_eq_true rfl)) dX3_fall_265 ⟨Nat.le_of_ble_eq_true rfl, Nat.le_of_ble_eq_true rfl⟩) (fun r_87 hr_87 => ?_)
        obtain rfl : (sp_bits (pa &&& ((1 <<< (x2 &&& 31)) - 1))) = r_87 := (hr_87).symm
        refine lv_topi (fun z_88 ez_88 => ?_)
        have hsp9 : 0 ≤ z_88.toInt ∧ z_88.toInt ≤ x2.toInt := by rw [ez_88]; exact spot_in (by omega) (by omega)
        have hFc := va_free (wc := [(wo, .inr (8, [.ref la, .ref cl, .ref p0, .ref p1, .ref p4, .int n])), (la, .inr (5, [.int (l9 0), .int (l9 1), .int (l9 2), .int (l9 3), .int (l9 4), .int (l9 5), .int (l9 6)])), (cl, .inr (1, [.int n0, .ref c1, .ref c2, .ref c3, .ref c4, .ref c5, .ref c6, .ref c7])), (c1, .inl (T 0, 24, .inl f1)), (c2, .inl (T 0, 24, .inl f2)), (c3, .inl (T 0, 24, .inl f3)), (c4, .inl (T 0, 24, .inl f4)), (c5, .inl (T 0, 24, .inl f5)), (p0, .inl (T 1, 676, .inr (.inl g0))), (p1, .inl (T 1, 676, .inr (.inl g1))), (p4, .inl (T 0, 672, .inl g4))]) hD hS hA [2, 3, 4, 5, 6, 7, 8, 9, 10, 11, 12] rfl
        refine va_calli (va_runV (As := [.int x1, .int x2, .int z_88]) (rest := []) ⟨hx, hb, hml, hown, hts⟩ (s_X11_picked l D T ad sa av ta _ wo la cl p0 p1 p4 n l9 n0 c1 c2 c3 c4 c5 c6 c7 f1 f2 f3 f4 f5 g0 g1 g4 30 x1 x2 z_88 (by omega) (by omega) (by omega) hok (by omega) hmm hlq (by omega) (by omega) (cS_all l D T ad sa av ta 30)) (cwV 3 hts gX3_fall_X11_picked rfl rfl rfl hv_X11_picked ⟨(show _ ≤ (2 * (d + 1) + 75 : Nat) from by (try dsimp only); omega), (show _ ≤ (64 * (d + 1) + 2400 : Nat) from by (try dsimp only); omega)⟩) (pWk_V (q := (RX11, TX11, 6)) (ci := 8) (q0 := 2) hP hE hD hV hS hFc rfl rfl [2, 3, 4, 5, 6, 7, 8, 9, 10, 11, 12] (by decide +kernel) rfl rfl) rfl rfl hl.1 rfl (lv_room (Nat.le_of_ble_eq_true rfl)) dX3_fall_268 ⟨Nat.le_of_ble_eq_true rfl, Nat.le_of_ble_eq_true rfl⟩) hS (fun q _ h => hFc q h) hFc (fun r_89 u_90 t H1 locs ht hvm hr_89 hB hz1 hk1 hS => ?_)
        obtain ⟨f_91, f_92, f_93⟩ := u_90
        obtain ⟨hqr_89, hpk_r_89, hstr_89⟩ := hr_89
        have hqr_89 : r_89.toInt = -5 ∨ (0 ≤ r_89.toInt ∧ r_89.toInt < x1.toInt) := hqr_89
        have hpk_r_89 : r_89 = pickW l9 f1 f2 f3 f4 f5 (VALW l9 f1 f2 f3 f4 f5) x1 x2 z_88 := hpk_r_89
        have hsr_89 : stW (VALW l9 f1 f2 f3 f4 f5) n0 n (rgP x1) g0 g1 g4 f_91 f_92 f_93 := hstr_89
        have hst : stW (VALW l9 f1 f2 f3 f4 f5) n0 n (fun _ => True) g0 g1 g4 f_91 f_92 f_93 := hst.tr hsr_89 (fun _ _ => trivial)
        have hmm : memW (VALW l9 f1 f2 f3 f4 f5) n0 n f_91 f_92 f_93 := hst.1
        obtain ⟨hP1, hD1⟩ := hB
        rw [ht] at hP1
        obtain ⟨hP, hD⟩ := va_repl [(h0, .inr (2, [.ref la, .ref cl, .ref wo, .ref on, .int dy, .int mu, .int pa])), (on, .inl (T 1, 7, .inr (.inl fo))), (wo, .inr (8, [.ref la, .ref cl, .ref p0, .ref p1, .ref p4, .int n])), (la, .inr (5, [.int (l9 0), .int (l9 1), .int (l9 2), .int (l9 3), .int (l9 4), .int (l9 5), .int (l9 6)])), (cl, .inr (1, [.int n0, .ref c1, .ref c2, .ref c3, .ref c4, .ref c5, .ref c6, .ref c7])), (c1, .inl (T 0, 24, .inl f1)), (c2, .inl (T 0, 24, .inl f2)), (c3, .inl (T 0, 24, .inl f3)), (c4, .inl (T 0, 24, .inl f4)), (c5, .inl (T 0, 24, .inl f5)), (p0, .inl (T 1, 676, .inr (.inl f_91))), (p1, .inl (T 1, 676, .inr (.inl f_92))), (p4, .inl (T 0, 672, .inl f_93))] hP hD [2, 3, 4, 5, 6, 7, 8, 9, 10, 11, 12] [2, 3, 4, 5, 6, 7, 8, 9, 10, 11, 12] rfl (by decide +kernel) rfl rfl rfl hk1 hP1
        clear hP1 hD1 hFc
        generalize H1 = H at hP hS ⊢
        refine lv_istore (lv' := [(7, .int r_89), (5, .int z_4), (0, .ref h0), (1, .int x1), (2, .int x2), (3, .long x3)]) hx hb dX3_fall_271 hl (by decide +kernel) rfl (fun ls hl => ?_)
        refine lv_iload hx hb dX3_fall_273 (lv_at hl 0 rfl) ?_
        refine lv_bipush (v := (-5)) hx hb dX3_fall_275 (by decide +kernel) ?_
        refine lv_icmp_ne (tgt := 288) hx hb dX3_fall_277 (by decide +kernel) (fun c_94 => ?_) (fun c_94 => ?_)
        · rw [fa_eq] at c_94
          try rw [ti_n5] at c_94
          refine lv_aload_n hx hb dX3_fall_288 rfl (lv_at hl 2 rfl) ?_
          refine lv_iload hx hb dX3_fall_289 (lv_at hl 0 rfl) ?_
          refine lv_iload_n hx hb dX3_fall_291 rfl (lv_at hl 4 rfl) ?_
          refine lv_lload_n hx hb dX3_fall_292 rfl (lv_at hl 5 rfl) ?_
          have hFc := va_free (wc := [(h0, .inr (2, [.ref la, .ref cl, .ref wo, .ref on, .int dy, .int mu, .int pa])), (on, .inl (T 1, 7, .inr (.inl fo))), (wo, .inr (8, [.ref la, .ref cl, .ref p0, .ref p1, .ref p4, .int n])), (la, .inr (5, [.int (l9 0), .int (l9 1), .int (l9 2), .int (l9 3), .int (l9 4), .int (l9 5), .int (l9 6)])), (cl, .inr (1, [.int n0, .ref c1, .ref c2, .ref c3, .ref c4, .ref c5, .ref c6, .ref c7])), (c1, .inl (T 0, 24, .inl f1)), (c2, .inl (T 0, 24, .inl f2)), (c3, .inl (T 0, 24, .inl f3)), (c4, .inl (T 0, 24, .inl f4)), (c5, .inl (T 0, 24, .inl f5)), (p0, .inl (T 1, 676, .inr (.inl f_91))), (p1, .inl (T 1, 676, .inr (.inl f_92))), (p4, .inl (T 0, 672, .inl f_93))]) hD hS hA [0, 1, 2, 3, 4, 5, 6, 7, 8, 9, 10, 11, 12] rfl
          refine va_callv (va_runV (As := [.int r_89, .int x2, .long x3]) (rest := []) ⟨hx, hb, hml, hown, hts⟩ (hrec _ h0 on dy mu pa fo wo la cl p0 p1 p4 n l9 n0 c1 c2 c3 c4 c5 c6 c7 f1 f2 f3 f4 f5 f_91 f_92 f_93 r_89 x2 x3 (by omega) (by omega) (by omega) hok (by omega) hmm hlq (by omega)) (cwV 3 hts gX3_fall_X3_fall rfl rfl rfl hv_X3_fall ⟨(show _ ≤ (2 * (d + 1) + 75 : Nat) from by (try dsimp only); omega), (show _ ≤ (64 * (d + 1) + 2400 : Nat) from by (try dsimp only); omega)⟩) (pWk_V (q := (RX3, TX3, 7)) (ci := 2) (q0 := 0) hP hE hD hV hS hFc rfl rfl [0, 1, 2, 3, 4, 5, 6, 7, 8, 9, 10, 11, 12] (by decide +kernel) rfl rfl) rfl rfl hl.1 rfl (lv_room (Nat.le_of_ble_eq_true rfl)) dX3_fall_293 ⟨Nat.le_of_ble_eq_true rfl, Nat.le_of_ble_eq_true rfl⟩) hS (fun q _ h => hFc q h) hFc (fun u_96 t H1 locs ht hvm hr_95 hB hz1 hk1 hS => ?_)
          obtain ⟨f_97, n_98, n_99, f_100, f_101, f_102⟩ := u_96
          have hsfhr_95 : stW (VALW l9 f1 f2 f3 f4 f5) n0 n (fun _ => True) f_91 f_92 f_93 f_100 f_101 f_102 := hr_95.2
          have hst : stW (VALW l9 f1 f2 f3 f4 f5) n0 n (fun _ => True) g0 g1 g4 f_100 f_101 f_102 := hst.tr hsfhr_95 (fun _ _ => trivial)
          have hmm : memW (VALW l9 f1 f2 f3 f4 f5) n0 n f_100 f_101 f_102 := hst.1
          have hflhr_95 : falP l9 f1 f2 f3 f4 f5 (VALW l9 f1 f2 f3 f4 f5) pa d r_89 x2 x3 ((fo, dy, mu) : duS) ((f_97, n_98, n_99) : duS) := hr_95.1
          obtain ⟨hP1, hD1⟩ := hB
          rw [ht] at hP1
          obtain ⟨hP, hD⟩ := va_repl [(h0, .inr (2, [.ref la, .ref cl, .ref wo, .ref on, .int n_98, .int n_99, .int pa])), (on, .inl (T 1, 7, .inr (.inl f_97))), (wo, .inr (8, [.ref la, .ref cl, .ref p0, .ref p1, .ref p4, .int n])), (la, .inr (5, [.int (l9 0), .int (l9 1), .int (l9 2), .int (l9 3), .int (l9 4), .int (l9 5), .int (l9 6)])), (cl, .inr (1, [.int n0, .ref c1, .ref c2, .ref c3, .ref c4, .ref c5, .ref c6, .ref c7])), (c1, .inl (T 0, 24, .inl f1)), (c2, .inl (T 0, 24, .inl f2)), (c3, .inl (T 0, 24, .inl f3)), (c4, .inl (T 0, 24, .inl f4)), (c5, .inl (T 0, 24, .inl f5)), (p0, .inl (T 1, 676, .inr (.inl f_100))), (p1, .inl (T 1, 676, .inr (.inl f_101))), (p4, .inl (T 0, 672, .inl f_102))] hP hD [0, 1, 2, 3, 4, 5, 6, 7, 8, 9, 10, 11, 12] [0, 1, 2, 3, 4, 5, 6, 7, 8, 9, 10, 11, 12] rfl (by decide +kernel) rfl rfl rfl hk1 hP1
          clear hP1 hD1 hFc
          generalize H1 = H at hP hS ⊢
          exact W.vret hx hb hr (fun t ht hW => ⟨⟨(f_97, n_98, n_99, f_100, f_101, f_102), rfl, ⟨fal_p (show mu.toInt = 0 from by omega) (by omega) (by rw [hk9]; decide) (by rw [show spW pa x2 = z_88 from ez_88.symm, ← hpk_r_89]; exact ⟨(fun q9 => absurd q9 (by omega)), (fun _ => hflhr_95)⟩), hst⟩, by rw [ht]; exact hP.sub [0, 1, 2, 3, 4, 5, 6, 7, 8, 9, 10, 11, 12] rfl, hD.sub [0, 1, 2, 3, 4, 5, 6, 7, 8, 9, 10, 11, 12] (by decide +kernel) rfl⟩, hS.F ht⟩) hS.2.2 dX3_fall_296
        · rw [fa_eq] at c_94
          try rw [ti_n5] at c_94
          refine lv_aload_n hx hb dX3_fall_280 rfl (lv_at hl 2 rfl) ?_
          refine lv_iconst (v := 1) hx hb dX3_fall_281 (by decide +kernel) ?_
          refine va_put (D := D) (ci := 2) (v := .int 1) (ty := .boolean) (C := RX3) (T := TX3) (N := 7) hx hb hts in_X3_fall_X3 tyX3 tyX3_ok nmX3 hown hE.1 hP hD hS 0 rfl rfl 5 (by decide +kernel) (hts (.fieldLink RX3 19 "ClauseBook$Falling" "much" "Z") (List.mem_of_getElem? (i := 1) rfl)) (fun _ h9 => h9) rfl (by decide +kernel) rfl rfl (Nat.le_of_ble_eq_true rfl) dX3_fall_282 (fun H locs hP hD hS => ?_)
          obtain ⟨hP, hD⟩ := wPD [(h0, .inr (2, [.ref la, .ref cl, .ref wo, .ref on, .int dy, .int 1, .int pa])), (on, .inl (T 1, 7, .inr (.inl fo))), (wo, .inr (8, [.ref la, .ref cl, .ref p0, .ref p1, .ref p4, .int n])), (la, .inr (5, [.int (l9 0), .int (l9 1), .int (l9 2), .int (l9 3), .int (l9 4), .int (l9 5), .int (l9 6)])), (cl, .inr (1, [.int n0, .ref c1, .ref c2, .ref c3, .ref c4, .ref c5, .ref c6, .ref c7])), (c1, .inl (T 0, 24, .inl f1)), (c2, .inl (T 0, 24, .inl f2)), (c3, .inl (T 0, 24, .inl f3)), (c4, .inl (T 0, 24, .inl f4)), (c5, .inl (T 0, 24, .inl f5)), (p0, .inl (T 1, 676, .inr (.inl f_91))), (p1, .inl (T 1, 676, .inr (.inl f_92))), (p4, .inl (T 0, 672, .inl f_93))] hP hD rfl
          refine lv_goto (tgt := 296) hx hb dX3_fall_285 (by decide +kernel) ?_
          exact W.vret hx hb hr (fun t ht hW => ⟨⟨(fo, dy, 1, f_91, f_92, f_93), rfl, ⟨fal_p (show mu.toInt = 0 from by omega) (by omega) (by rw [hk9]; decide) (by rw [show spW pa x2 = z_88 from ez_88.symm, ← hpk_r_89]; exact ⟨(fun _ => (show ¬ (1 : Int32).toInt = 0 from by decide)), (fun q9 => absurd (by omega) q9)⟩), hst⟩, by rw [ht]; exact hP.sub [0, 1, 2, 3, 4, 5, 6, 7, 8, 9, 10, 11, 12] rfl, hD.sub [0, 1, 2, 3, 4, 5, 6, 7, 8, 9, 10, 11, 12] (by decide +kernel) rfl⟩, hS.F ht⟩) hS.2.2 dX3_fall_296
      · refine W.eq (g2 := F0 m 43 ls [.ref (ad 8), .ref (av 13)]) (by rw [hk9]) ?_
        have hc9 : 0 ≤ z_4.toInt ∧ z_4.toInt < x1.toInt := by
          have h := (hok _ (in24 (x := x1) (by omega)).1).2.1 (by rw [hk9]; decide)
          have h2 := (in24 (x := x1) (by omega)).2
          rw [ez_4]
          omega
        refine vp_callSi (va_Run.run (va_runU (As := []) (rest := [.ref (av 13)]) ⟨hx, hb, hml, hown, hts⟩ (c_Jx29ce0_ordinal_8abf5 l D T ad sa av ta 8 (by decide +kernel)) (va_cwU 0 hts gX3_fall_Jx29ce0_ordinal_8abf5_u63X7 rfl rfl rfl rfl (by decide +kernel) ⟨(show _ ≤ (2 * (d + 1) + 75 : Nat) from by (try dsimp only); omega), (show _ ≤ (64 * (d + 1) + 2400 : Nat) from by (try dsimp only); omega)⟩) (pRk_VE (i := 8) (by decide +kernel) hP hE hV hS [] rfl) rfl rfl hl.1 rfl (lv_room (Nat.le_of_ble_eq_true rfl)) dX3_fall_43 ⟨Nat.le_of_ble_eq_true rfl, Nat.le_of_ble_eq_true rfl⟩)) (fun r_103 hr_103 => ?_)
        obtain rfl : (odT 8) = r_103 := (hr_103).symm
        refine va_ti (v := .int (swT 8)) hx hb hV.2.2.2.2.2.1 hS (odT_in (by decide +kernel)) (congrArg (fun z => Value.int (swT z)) (odT_at (by decide +kernel))) dX3_fall_46 ?_
        refine lv_topi (fun z_104 ez_104 => ?_)
        obtain rfl : z_104 = 0 := ez_104.trans (by decide +kernel)
        refine lv_tableOut (tgt := 254) hx hb dX3_fall_47 (by decide +kernel) (by decide +kernel) ?_
        refine lv_aload_n hx hb dX3_fall_254 rfl (lv_at hl 1 rfl) ?_
        refine va_get (D := D) (ci := 2) (v := .ref wo) (C := RX3) (T := TX3) (N := 7) hx hb hts in_X3_fall_X3 hown hE.1 hP 0 rfl rfl 2 (by decide +kernel) (hts (.fieldLink RX3 34 "ClauseBook$Falling" "worth" "LClauseBook$Worth;") (List.mem_of_getElem? (i := 11) rfl)) (fun _ h9 => h9) rfl dX3_fall_255 ?_
        refine lv_iload_n hx hb dX3_fall_258 rfl (lv_at hl 2 rfl) ?_
        refine lv_iload_n hx hb dX3_fall_259 rfl (lv_at hl 3 rfl) ?_
        refine lv_aload_n hx hb dX3_fall_260 rfl (lv_at hl 1 rfl) ?_
        refine va_get (D := D) (ci := 2) (v := .int pa) (C := RX3) (T := TX3) (N := 7) hx hb hts in_X3_fall_X3 hown hE.1 hP 0 rfl rfl 6 (by decide +kernel) (hts (.fieldLink RX3 23 "ClauseBook$Falling" "path" "I") (List.mem_of_getElem? (i := 9) rfl)) (fun _ h9 => h9) rfl dX3_fall_261 ?_
        refine lv_iload_n hx hb dX3_fall_264 rfl (lv_at hl 3 rfl) ?_
        refine vp_callSi (W.runS (As := [.int pa, .int x2]) (rest := [.int x2, .int x1, .ref wo]) ⟨hx, hb, hml, hown, hts⟩ (c_X8_spotOn l D T pa x2) (va_cwS 2 hts gX3_fall_X8_spotOn rfl rfl rfl hs_X8_spotOn ⟨(show _ ≤ (2 * (d + 1) + 75 : Nat) from by (try dsimp only); omega), (show _ ≤ (64 * (d + 1) + 2400 : Nat) from by (try dsimp only); omega)⟩) (pR_S hP hE [] rfl) rfl rfl hl.1 rfl (lv_room (Nat.le_of_ble_eq_true rfl)) dX3_fall_265 ⟨Nat.le_of_ble_eq_true rfl, Nat.le_of_ble_eq_true rfl⟩) (fun r_105 hr_105 => ?_)
        obtain rfl : (sp_bits (pa &&& ((1 <<< (x2 &&& 31)) - 1))) = r_105 := (hr_105).symm
        refine lv_topi (fun z_106 ez_106 => ?_)
        have hsp9 : 0 ≤ z_106.toInt ∧ z_106.toInt ≤ x2.toInt := by rw [ez_106]; exact spot_in (by omega) (by omega)
        have hFc := va_free (wc := [(wo, .inr (8, [.ref la, .ref cl, .ref p0, .ref p1, .ref p4, .int n])), (la, .inr (5, [.int (l9 0), .int (l9 1), .int (l9 2), .int (l9 3), .int (l9 4), .int (l9 5), .int (l9 6)])), (cl, .inr (1, [.int n0, .ref c1, .ref c2, .ref c3, .ref c4, .ref c5, .ref c6, .ref c7])), (c1, .inl (T 0, 24, .inl f1)), (c2, .inl (T 0, 24, .inl f2)), (c3, .inl (T 0, 24, .inl f3)), (c4, .inl (T 0, 24, .inl f4)), (c5, .inl (T 0, 24, .inl f5)), (p0, .inl (T 1, 676, .inr (.inl g0))), (p1, .inl (T 1, 676, .inr (.inl g1))), (p4, .inl (T 0, 672, .inl g4))]) hD hS hA [2, 3, 4, 5, 6, 7, 8, 9, 10, 11, 12] rfl
        refine va_calli (va_runV (As := [.int x1, .int x2, .int z_106]) (rest := []) ⟨hx, hb, hml, hown, hts⟩ (s_X11_picked l D T ad sa av ta _ wo la cl p0 p1 p4 n l9 n0 c1 c2 c3 c4 c5 c6 c7 f1 f2 f3 f4 f5 g0 g1 g4 30 x1 x2 z_106 (by omega) (by omega) (by omega) hok (by omega) hmm hlq (by omega) (by omega) (cS_all l D T ad sa av ta 30)) (cwV 3 hts gX3_fall_X11_picked rfl rfl rfl hv_X11_picked ⟨(show _ ≤ (2 * (d + 1) + 75 : Nat) from by (try dsimp only); omega), (show _ ≤ (64 * (d + 1) + 2400 : Nat) from by (try dsimp only); omega)⟩) (pWk_V (q := (RX11, TX11, 6)) (ci := 8) (q0 := 2) hP hE hD hV hS hFc rfl rfl [2, 3, 4, 5, 6, 7, 8, 9, 10, 11, 12] (by decide +kernel) rfl rfl) rfl rfl hl.1 rfl (lv_room (Nat.le_of_ble_eq_true rfl)) dX3_fall_268 ⟨Nat.le_of_ble_eq_true rfl, Nat.le_of_ble_eq_true rfl⟩) hS (fun q _ h => hFc q h) hFc (fun r_107 u_108 t H1 locs ht hvm hr_107 hB hz1 hk1 hS => ?_)
        obtain ⟨f_109, f_110, f_111⟩ := u_108
        obtain ⟨hqr_107, hpk_r_107, hstr_107⟩ := hr_107
        have hqr_107 : r_107.toInt = -5 ∨ (0 ≤ r_107.toInt ∧ r_107.toInt < x1.toInt) := hqr_107
        have hpk_r_107 : r_107 = pickW l9 f1 f2 f3 f4 f5 (VALW l9 f1 f2 f3 f4 f5) x1 x2 z_106 := hpk_r_107
        have hsr_107 : stW (VALW l9 f1 f2 f3 f4 f5) n0 n (rgP x1) g0 g1 g4 f_109 f_110 f_111 := hstr_107
        have hst : stW (VALW l9 f1 f2 f3 f4 f5) n0 n (fun _ => True) g0 g1 g4 f_109 f_110 f_111 := hst.tr hsr_107 (fun _ _ => trivial)
        have hmm : memW (VALW l9 f1 f2 f3 f4 f5) n0 n f_109 f_110 f_111 := hst.1
        obtain ⟨hP1, hD1⟩ := hB
        rw [ht] at hP1
        obtain ⟨hP, hD⟩ := va_repl [(h0, .inr (2, [.ref la, .ref cl, .ref wo, .ref on, .int dy, .int mu, .int pa])), (on, .inl (T 1, 7, .inr (.inl fo))), (wo, .inr (8, [.ref la, .ref cl, .ref p0, .ref p1, .ref p4, .int n])), (la, .inr (5, [.int (l9 0), .int (l9 1), .int (l9 2), .int (l9 3), .int (l9 4), .int (l9 5), .int (l9 6)])), (cl, .inr (1, [.int n0, .ref c1, .ref c2, .ref c3, .ref c4, .ref c5, .ref c6, .ref c7])), (c1, .inl (T 0, 24, .inl f1)), (c2, .inl (T 0, 24, .inl f2)), (c3, .inl (T 0, 24, .inl f3)), (c4, .inl (T 0, 24, .inl f4)), (c5, .inl (T 0, 24, .inl f5)), (p0, .inl (T 1, 676, .inr (.inl f_109))), (p1, .inl (T 1, 676, .inr (.inl f_110))), (p4, .inl (T 0, 672, .inl f_111))] hP hD [2, 3, 4, 5, 6, 7, 8, 9, 10, 11, 12] [2, 3, 4, 5, 6, 7, 8, 9, 10, 11, 12] rfl (by decide +kernel) rfl rfl rfl hk1 hP1
        clear hP1 hD1 hFc
        generalize H1 = H at hP hS ⊢
        refine lv_istore (lv' := [(7, .int r_107), (5, .int z_4), (0, .ref h0), (1, .int x1), (2, .int x2), (3, .long x3)]) hx hb dX3_fall_271 hl (by decide +kernel) rfl (fun ls hl => ?_)
        refine lv_iload hx hb dX3_fall_273 (lv_at hl 0 rfl) ?_
        refine lv_bipush (v := (-5)) hx hb dX3_fall_275 (by decide +kernel) ?_
        refine lv_icmp_ne (tgt := 288) hx hb dX3_fall_277 (by decide +kernel) (fun c_112 => ?_) (fun c_112 => ?_)
        · rw [fa_eq] at c_112
          try rw [ti_n5] at c_112
          refine lv_aload_n hx hb dX3_fall_288 rfl (lv_at hl 2 rfl) ?_
          refine lv_iload hx hb dX3_fall_289 (lv_at hl 0 rfl) ?_
          refine lv_iload_n hx hb dX3_fall_291 rfl (lv_at hl 4 rfl) ?_
          refine lv_lload_n hx hb dX3_fall_292 rfl (lv_at hl 5 rfl) ?_
          have hFc := va_free (wc := [(h0, .inr (2, [.ref la, .ref cl, .ref wo, .ref on, .int dy, .int mu, .int pa])), (on, .inl (T 1, 7, .inr (.inl fo))), (wo, .inr (8, [.ref la, .ref cl, .ref p0, .ref p1, .ref p4, .int n])), (la, .inr (5, [.int (l9 0), .int (l9 1), .int (l9 2), .int (l9 3), .int (l9 4), .int (l9 5), .int (l9 6)])), (cl, .inr (1, [.int n0, .ref c1, .ref c2, .ref c3, .ref c4, .ref c5, .ref c6, .ref c7])), (c1, .inl (T 0, 24, .inl f1)), (c2, .inl (T 0, 24, .inl f2)), (c3, .inl (T 0, 24, .inl f3)), (c4, .inl (T 0, 24, .inl f4)), (c5, .inl (T 0, 24, .inl f5)), (p0, .inl (T 1, 676, .inr (.inl f_109))), (p1, .inl (T 1, 676, .inr (.inl f_110))), (p4, .inl (T 0, 672, .inl f_111))]) hD hS hA [0, 1, 2, 3, 4, 5, 6, 7, 8, 9, 10, 11, 12] rfl
          refine va_callv (va_runV (As := [.int r_107, .int x2, .long x3]) (rest := []) ⟨hx, hb, hml, hown, hts⟩ (hrec _ h0 on dy mu pa fo wo la cl p0 p1 p4 n l9 n0 c1 c2 c3 c4 c5 c6 c7 f1 f2 f3 f4 f5 f_109 f_110 f_111 r_107 x2 x3 (by omega) (by omega) (by omega) hok (by omega) hmm hlq (by omega)) (cwV 3 hts gX3_fall_X3_fall rfl rfl rfl hv_X3_fall ⟨(show _ ≤ (2 * (d + 1) + 75 : Nat) from by (try dsimp only); omega), (show _ ≤ (64 * (d + 1) + 2400 : Nat) from by (try dsimp only); omega)⟩) (pWk_V (q := (RX3, TX3, 7)) (ci := 2) (q0 := 0) hP hE hD hV hS hFc rfl rfl [0, 1, 2, 3, 4, 5, 6, 7, 8, 9, 10, 11, 12] (by decide +kernel) rfl rfl) rfl rfl hl.1 rfl (lv_room (Nat.le_of_ble_eq_true rfl)) dX3_fall_293 ⟨Nat.le_of_ble_eq_true rfl, Nat.le_of_ble_eq_true rfl⟩) hS (fun q _ h => hFc q h) hFc (fun u_114 t H1 locs ht hvm hr_113 hB hz1 hk1 hS => ?_)
          obtain ⟨f_115, n_116, n_117, f_118, f_119, f_120⟩ := u_114
          have hsfhr_113 : stW (VALW l9 f1 f2 f3 f4 f5) n0 n (fun _ => True) f_109 f_110 f_111 f_118 f_119 f_120 := hr_113.2
          have hst : stW (VALW l9 f1 f2 f3 f4 f5) n0 n (fun _ => True) g0 g1 g4 f_118 f_119 f_120 := hst.tr hsfhr_113 (fun _ _ => trivial)
          have hmm : memW (VALW l9 f1 f2 f3 f4 f5) n0 n f_118 f_119 f_120 := hst.1
          have hflhr_113 : falP l9 f1 f2 f3 f4 f5 (VALW l9 f1 f2 f3 f4 f5) pa d r_107 x2 x3 ((fo, dy, mu) : duS) ((f_115, n_116, n_117) : duS) := hr_113.1
          obtain ⟨hP1, hD1⟩ := hB
          rw [ht] at hP1
          obtain ⟨hP, hD⟩ := va_repl [(h0, .inr (2, [.ref la, .ref cl, .ref wo, .ref on, .int n_116, .int n_117, .int pa])), (on, .inl (T 1, 7, .inr (.inl f_115))), (wo, .inr (8, [.ref la, .ref cl, .ref p0, .ref p1, .ref p4, .int n])), (la, .inr (5, [.int (l9 0), .int (l9 1), .int (l9 2), .int (l9 3), .int (l9 4), .int (l9 5), .int (l9 6)])), (cl, .inr (1, [.int n0, .ref c1, .ref c2, .ref c3, .ref c4, .ref c5, .ref c6, .ref c7])), (c1, .inl (T 0, 24, .inl f1)), (c2, .inl (T 0, 24, .inl f2)), (c3, .inl (T 0, 24, .inl f3)), (c4, .inl (T 0, 24, .inl f4)), (c5, .inl (T 0, 24, .inl f5)), (p0, .inl (T 1, 676, .inr (.inl f_118))), (p1, .inl (T 1, 676, .inr (.inl f_119))), (p4, .inl (T 0, 672, .inl f_120))] hP hD [0, 1, 2, 3, 4, 5, 6, 7, 8, 9, 10, 11, 12] [0, 1, 2, 3, 4, 5, 6, 7, 8, 9, 10, 11, 12] rfl (by decide +kernel) rfl rfl rfl hk1 hP1
          clear hP1 hD1 hFc
          generalize H1 = H at hP hS ⊢
          exact W.vret hx hb hr (fun t ht hW => ⟨⟨(f_115, n_116, n_117, f_118, f_119, f_120), rfl, ⟨fal_p (show mu.toInt = 0 from by omega) (by omega) (by rw [hk9]; decide) (by rw [show spW pa x2 = z_106 from ez_106.symm, ← hpk_r_107]; exact ⟨(fun q9 => absurd q9 (by omega)), (fun _ => hflhr_113)⟩), hst⟩, by rw [ht]; exact hP.sub [0, 1, 2, 3, 4, 5, 6, 7, 8, 9, 10, 11, 12] rfl, hD.sub [0, 1, 2, 3, 4, 5, 6, 7, 8, 9, 10, 11, 12] (by decide +kernel) rfl⟩, hS.F ht⟩) hS.2.2 dX3_fall_296
        · rw [fa_eq] at c_112
          try rw [ti_n5] at c_112
          refine lv_aload_n hx hb dX3_fall_280 rfl (lv_at hl 2 rfl) ?_
          refine lv_iconst (v := 1) hx hb dX3_fall_281 (by decide +kernel) ?_
          refine va_put (D := D) (ci := 2) (v := .int 1) (ty := .boolean) (C := RX3) (T := TX3) (N := 7) hx hb hts in_X3_fall_X3 tyX3 tyX3_ok nmX3 hown hE.1 hP hD hS 0 rfl rfl 5 (by decide +kernel) (hts (.fieldLink RX3 19 "ClauseBook$Falling" "much" "Z") (List.mem_of_getElem? (i := 1) rfl)) (fun _ h9 => h9) rfl (by decide +kernel) rfl rfl (Nat.le_of_ble_eq_true rfl) dX3_fall_282 (fun H locs hP hD hS => ?_)
          obtain ⟨hP, hD⟩ := wPD [(h0, .inr (2, [.ref la, .ref cl, .ref wo, .ref on, .int dy, .int 1, .int pa])), (on, .inl (T 1, 7, .inr (.inl fo))), (wo, .inr (8, [.ref la, .ref cl, .ref p0, .ref p1, .ref p4, .int n])), (la, .inr (5, [.int (l9 0), .int (l9 1), .int (l9 2), .int (l9 3), .int (l9 4), .int (l9 5), .int (l9 6)])), (cl, .inr (1, [.int n0, .ref c1, .ref c2, .ref c3, .ref c4, .ref c5, .ref c6, .ref c7])), (c1, .inl (T 0, 24, .inl f1)), (c2, .inl (T 0, 24, .inl f2)), (c3, .inl (T 0, 24, .inl f3)), (c4, .inl (T 0, 24, .inl f4)), (c5, .inl (T 0, 24, .inl f5)), (p0, .inl (T 1, 676, .inr (.inl f_109))), (p1, .inl (T 1, 676, .inr (.inl f_110))), (p4, .inl (T 0, 672, .inl f_111))] hP hD rfl
          refine lv_goto (tgt := 296) hx hb dX3_fall_285 (by decide +kernel) ?_
          exact W.vret hx hb hr (fun t ht hW => ⟨⟨(fo, dy, 1, f_109, f_110, f_111), rfl, ⟨fal_p (show mu.toInt = 0 from by omega) (by omega) (by rw [hk9]; decide) (by rw [show spW pa x2 = z_106 from ez_106.symm, ← hpk_r_107]; exact ⟨(fun _ => (show ¬ (1 : Int32).toInt = 0 from by decide)), (fun q9 => absurd (by omega) q9)⟩), hst⟩, by rw [ht]; exact hP.sub [0, 1, 2, 3, 4, 5, 6, 7, 8, 9, 10, 11, 12] rfl, hD.sub [0, 1, 2, 3, 4, 5, 6, 7, 8, 9, 10, 11, 12] (by decide +kernel) rfl⟩, hS.F ht⟩) hS.2.2 dX3_fall_296
      · refine W.eq (g2 := F0 m 43 ls [.ref (ad 9), .ref (av 13)]) (by rw [hk9]) ?_
        have hc9 : 0 ≤ z_4.toInt ∧ z_4.toInt < x1.toInt := by
          have h := (hok _ (in24 (x := x1) (by omega)).1).2.1 (by rw [hk9]; decide)
          have h2 := (in24 (x := x1) (by omega)).2
          rw [ez_4]
          omega
        have hd9 : 0 ≤ (f4 (x1.toNatClampNeg)).toInt ∧ (f4 (x1.toNatClampNeg)).toInt < x1.toInt := by
          have h := (hok _ (in24 (x := x1) (by omega)).1).2.2.1 (by rw [hk9]; decide)
          have h2 := (in24 (x := x1) (by omega)).2
          omega
        refine vp_callSi (va_Run.run (va_runU (As := []) (rest := [.ref (av 13)]) ⟨hx, hb, hml, hown, hts⟩ (c_Jx29ce0_ordinal_8abf5 l D T ad sa av ta 9 (by decide +kernel)) (va_cwU 0 hts gX3_fall_Jx29ce0_ordinal_8abf5_u63X7 rfl rfl rfl rfl (by decide +kernel) ⟨(show _ ≤ (2 * (d + 1) + 75 : Nat) from by (try dsimp only); omega), (show _ ≤ (64 * (d + 1) + 2400 : Nat) from by (try dsimp only); omega)⟩) (pRk_VE (i := 9) (by decide +kernel) hP hE hV hS [] rfl) rfl rfl hl.1 rfl (lv_room (Nat.le_of_ble_eq_true rfl)) dX3_fall_43 ⟨Nat.le_of_ble_eq_true rfl, Nat.le_of_ble_eq_true rfl⟩)) (fun r_121 hr_121 => ?_)
        obtain rfl : (odT 9) = r_121 := (hr_121).symm
        refine va_ti (v := .int (swT 9)) hx hb hV.2.2.2.2.2.1 hS (odT_in (by decide +kernel)) (congrArg (fun z => Value.int (swT z)) (odT_at (by decide +kernel))) dX3_fall_46 ?_
        refine lv_topi (fun z_122 ez_122 => ?_)
        obtain rfl : z_122 = 0 := ez_122.trans (by decide +kernel)
        refine lv_tableOut (tgt := 254) hx hb dX3_fall_47 (by decide +kernel) (by decide +kernel) ?_
        refine lv_aload_n hx hb dX3_fall_254 rfl (lv_at hl 1 rfl) ?_
        refine va_get (D := D) (ci := 2) (v := .ref wo) (C := RX3) (T := TX3) (N := 7) hx hb hts in_X3_fall_X3 hown hE.1 hP 0 rfl rfl 2 (by decide +kernel) (hts (.fieldLink RX3 34 "ClauseBook$Falling" "worth" "LClauseBook$Worth;") (List.mem_of_getElem? (i := 11) rfl)) (fun _ h9 => h9) rfl dX3_fall_255 ?_
        refine lv_iload_n hx hb dX3_fall_258 rfl (lv_at hl 2 rfl) ?_
        refine lv_iload_n hx hb dX3_fall_259 rfl (lv_at hl 3 rfl) ?_
        refine lv_aload_n hx hb dX3_fall_260 rfl (lv_at hl 1 rfl) ?_
        refine va_get (D := D) (ci := 2) (v := .int pa) (C := RX3) (T := TX3) (N := 7) hx hb hts in_X3_fall_X3 hown hE.1 hP 0 rfl rfl 6 (by decide +kernel) (hts (.fieldLink RX3 23 "ClauseBook$Falling" "path" "I") (List.mem_of_getElem? (i := 9) rfl)) (fun _ h9 => h9) rfl dX3_fall_261 ?_
        refine lv_iload_n hx hb dX3_fall_264 rfl (lv_at hl 3 rfl) ?_
        refine vp_callSi (W.runS (As := [.int pa, .int x2]) (rest := [.int x2, .int x1, .ref wo]) ⟨hx, hb, hml, hown, hts⟩ (c_X8_spotOn l D T pa x2) (va_cwS 2 hts gX3_fall_X8_spotOn rfl rfl rfl hs_X8_spotOn ⟨(show _ ≤ (2 * (d + 1) + 75 : Nat) from by (try dsimp only); omega), (show _ ≤ (64 * (d + 1) + 2400 : Nat) from by (try dsimp only); omega)⟩) (pR_S hP hE [] rfl) rfl rfl hl.1 rfl (lv_room (Nat.le_of_ble_eq_true rfl)) dX3_fall_265 ⟨Nat.le_of_ble_eq_true rfl, Nat.le_of_ble_eq_true rfl⟩) (fun r_123 hr_123 => ?_)
        obtain rfl : (sp_bits (pa &&& ((1 <<< (x2 &&& 31)) - 1))) = r_123 := (hr_123).symm
        refine lv_topi (fun z_124 ez_124 => ?_)
        have hsp9 : 0 ≤ z_124.toInt ∧ z_124.toInt ≤ x2.toInt := by rw [ez_124]; exact spot_in (by omega) (by omega)
        have hFc := va_free (wc := [(wo, .inr (8, [.ref la, .ref cl, .ref p0, .ref p1, .ref p4, .int n])), (la, .inr (5, [.int (l9 0), .int (l9 1), .int (l9 2), .int (l9 3), .int (l9 4), .int (l9 5), .int (l9 6)])), (cl, .inr (1, [.int n0, .ref c1, .ref c2, .ref c3, .ref c4, .ref c5, .ref c6, .ref c7])), (c1, .inl (T 0, 24, .inl f1)), (c2, .inl (T 0, 24, .inl f2)), (c3, .inl (T 0, 24, .inl f3)), (c4, .inl (T 0, 24, .inl f4)), (c5, .inl (T 0, 24, .inl f5)), (p0, .inl (T 1, 676, .inr (.inl g0))), (p1, .inl (T 1, 676, .inr (.inl g1))), (p4, .inl (T 0, 672, .inl g4))]) hD hS hA [2, 3, 4, 5, 6, 7, 8, 9, 10, 11, 12] rfl
        refine va_calli (va_runV (As := [.int x1, .int x2, .int z_124]) (rest := []) ⟨hx, hb, hml, hown, hts⟩ (s_X11_picked l D T ad sa av ta _ wo la cl p0 p1 p4 n l9 n0 c1 c2 c3 c4 c5 c6 c7 f1 f2 f3 f4 f5 g0 g1 g4 30 x1 x2 z_124 (by omega) (by omega) (by omega) hok (by omega) hmm hlq (by omega) (by omega) (cS_all l D T ad sa av ta 30)) (cwV 3 hts gX3_fall_X11_picked rfl rfl rfl hv_X11_picked ⟨(show _ ≤ (2 * (d + 1) + 75 : Nat) from by (try dsimp only); omega), (show _ ≤ (64 * (d + 1) + 2400 : Nat) from by (try dsimp only); omega)⟩) (pWk_V (q := (RX11, TX11, 6)) (ci := 8) (q0 := 2) hP hE hD hV hS hFc rfl rfl [2, 3, 4, 5, 6, 7, 8, 9, 10, 11, 12] (by decide +kernel) rfl rfl) rfl rfl hl.1 rfl (lv_room (Nat.le_of_ble_eq_true rfl)) dX3_fall_268 ⟨Nat.le_of_ble_eq_true rfl, Nat.le_of_ble_eq_true rfl⟩) hS (fun q _ h => hFc q h) hFc (fun r_125 u_126 t H1 locs ht hvm hr_125 hB hz1 hk1 hS => ?_)
        obtain ⟨f_127, f_128, f_129⟩ := u_126
        obtain ⟨hqr_125, hpk_r_125, hstr_125⟩ := hr_125
        have hqr_125 : r_125.toInt = -5 ∨ (0 ≤ r_125.toInt ∧ r_125.toInt < x1.toInt) := hqr_125
        have hpk_r_125 : r_125 = pickW l9 f1 f2 f3 f4 f5 (VALW l9 f1 f2 f3 f4 f5) x1 x2 z_124 := hpk_r_125
        have hsr_125 : stW (VALW l9 f1 f2 f3 f4 f5) n0 n (rgP x1) g0 g1 g4 f_127 f_128 f_129 := hstr_125
        have hst : stW (VALW l9 f1 f2 f3 f4 f5) n0 n (fun _ => True) g0 g1 g4 f_127 f_128 f_129 := hst.tr hsr_125 (fun _ _ => trivial)
        have hmm : memW (VALW l9 f1 f2 f3 f4 f5) n0 n f_127 f_128 f_129 := hst.1
        obtain ⟨hP1, hD1⟩ := hB
        rw [ht] at hP1
        obtain ⟨hP, hD⟩ := va_repl [(h0, .inr (2, [.ref la, .ref cl, .ref wo, .ref on, .int dy, .int mu, .int pa])), (on, .inl (T 1, 7, .inr (.inl fo))), (wo, .inr (8, [.ref la, .ref cl, .ref p0, .ref p1, .ref p4, .int n])), (la, .inr (5, [.int (l9 0), .int (l9 1), .int (l9 2), .int (l9 3), .int (l9 4), .int (l9 5), .int (l9 6)])), (cl, .inr (1, [.int n0, .ref c1, .ref c2, .ref c3, .ref c4, .ref c5, .ref c6, .ref c7])), (c1, .inl (T 0, 24, .inl f1)), (c2, .inl (T 0, 24, .inl f2)), (c3, .inl (T 0, 24, .inl f3)), (c4, .inl (T 0, 24, .inl f4)), (c5, .inl (T 0, 24, .inl f5)), (p0, .inl (T 1, 676, .inr (.inl f_127))), (p1, .inl (T 1, 676, .inr (.inl f_128))), (p4, .inl (T 0, 672, .inl f_129))] hP hD [2, 3, 4, 5, 6, 7, 8, 9, 10, 11, 12] [2, 3, 4, 5, 6, 7, 8, 9, 10, 11, 12] rfl (by decide +kernel) rfl rfl rfl hk1 hP1
        clear hP1 hD1 hFc
        generalize H1 = H at hP hS ⊢
        refine lv_istore (lv' := [(7, .int r_125), (5, .int z_4), (0, .ref h0), (1, .int x1), (2, .int x2), (3, .long x3)]) hx hb dX3_fall_271 hl (by decide +kernel) rfl (fun ls hl => ?_)
        refine lv_iload hx hb dX3_fall_273 (lv_at hl 0 rfl) ?_
        refine lv_bipush (v := (-5)) hx hb dX3_fall_275 (by decide +kernel) ?_
        refine lv_icmp_ne (tgt := 288) hx hb dX3_fall_277 (by decide +kernel) (fun c_130 => ?_) (fun c_130 => ?_)
        · rw [fa_eq] at c_130
          try rw [ti_n5] at c_130
          refine lv_aload_n hx hb dX3_fall_288 rfl (lv_at hl 2 rfl) ?_
          refine lv_iload hx hb dX3_fall_289 (lv_at hl 0 rfl) ?_
          refine lv_iload_n hx hb dX3_fall_291 rfl (lv_at hl 4 rfl) ?_
          refine lv_lload_n hx hb dX3_fall_292 rfl (lv_at hl 5 rfl) ?_
          have hFc := va_free (wc := [(h0, .inr (2, [.ref la, .ref cl, .ref wo, .ref on, .int dy, .int mu, .int pa])), (on, .inl (T 1, 7, .inr (.inl fo))), (wo, .inr (8, [.ref la, .ref cl, .ref p0, .ref p1, .ref p4, .int n])), (la, .inr (5, [.int (l9 0), .int (l9 1), .int (l9 2), .int (l9 3), .int (l9 4), .int (l9 5), .int (l9 6)])), (cl, .inr (1, [.int n0, .ref c1, .ref c2, .ref c3, .ref c4, .ref c5, .ref c6, .ref c7])), (c1, .inl (T 0, 24, .inl f1)), (c2, .inl (T 0, 24, .inl f2)), (c3, .inl (T 0, 24, .inl f3)), (c4, .inl (T 0, 24, .inl f4)), (c5, .inl (T 0, 24, .inl f5)), (p0, .inl (T 1, 676, .inr (.inl f_127))), (p1, .inl (T 1, 676, .inr (.inl f_128))), (p4, .inl (T 0, 672, .inl f_129))]) hD hS hA [0, 1, 2, 3, 4, 5, 6, 7, 8, 9, 10, 11, 12] rfl
          refine va_callv (va_runV (As := [.int r_125, .int x2, .long x3]) (rest := []) ⟨hx, hb, hml, hown, hts⟩ (hrec _ h0 on dy mu pa fo wo la cl p0 p1 p4 n l9 n0 c1 c2 c3 c4 c5 c6 c7 f1 f2 f3 f4 f5 f_127 f_128 f_129 r_125 x2 x3 (by omega) (by omega) (by omega) hok (by omega) hmm hlq (by omega)) (cwV 3 hts gX3_fall_X3_fall rfl rfl rfl hv_X3_fall ⟨(show _ ≤ (2 * (d + 1) + 75 : Nat) from by (try dsimp only); omega), (show _ ≤ (64 * (d + 1) + 2400 : Nat) from by (try dsimp only); omega)⟩) (pWk_V (q := (RX3, TX3, 7)) (ci := 2) (q0 := 0) hP hE hD hV hS hFc rfl rfl [0, 1, 2, 3, 4, 5, 6, 7, 8, 9, 10, 11, 12] (by decide +kernel) rfl rfl) rfl rfl hl.1 rfl (lv_room (Nat.le_of_ble_eq_true rfl)) dX3_fall_293 ⟨Nat.le_of_ble_eq_true rfl, Nat.le_of_ble_eq_true rfl⟩) hS (fun q _ h => hFc q h) hFc (fun u_132 t H1 locs ht hvm hr_131 hB hz1 hk1 hS => ?_)
          obtain ⟨f_133, n_134, n_135, f_136, f_137, f_138⟩ := u_132
          have hsfhr_131 : stW (VALW l9 f1 f2 f3 f4 f5) n0 n (fun _ => True) f_127 f_128 f_129 f_136 f_137 f_138 := hr_131.2
          have hst : stW (VALW l9 f1 f2 f3 f4 f5) n0 n (fun _ => True) g0 g1 g4 f_136 f_137 f_138 := hst.tr hsfhr_131 (fun _ _ => trivial)
          have hmm : memW (VALW l9 f1 f2 f3 f4 f5) n0 n f_136 f_137 f_138 := hst.1
          have hflhr_131 : falP l9 f1 f2 f3 f4 f5 (VALW l9 f1 f2 f3 f4 f5) pa d r_125 x2 x3 ((fo, dy, mu) : duS) ((f_133, n_134, n_135) : duS) := hr_131.1
          obtain ⟨hP1, hD1⟩ := hB
          rw [ht] at hP1
          obtain ⟨hP, hD⟩ := va_repl [(h0, .inr (2, [.ref la, .ref cl, .ref wo, .ref on, .int n_134, .int n_135, .int pa])), (on, .inl (T 1, 7, .inr (.inl f_133))), (wo, .inr (8, [.ref la, .ref cl, .ref p0, .ref p1, .ref p4, .int n])), (la, .inr (5, [.int (l9 0), .int (l9 1), .int (l9 2), .int (l9 3), .int (l9 4), .int (l9 5), .int (l9 6)])), (cl, .inr (1, [.int n0, .ref c1, .ref c2, .ref c3, .ref c4, .ref c5, .ref c6, .ref c7])), (c1, .inl (T 0, 24, .inl f1)), (c2, .inl (T 0, 24, .inl f2)), (c3, .inl (T 0, 24, .inl f3)), (c4, .inl (T 0, 24, .inl f4)), (c5, .inl (T 0, 24, .inl f5)), (p0, .inl (T 1, 676, .inr (.inl f_136))), (p1, .inl (T 1, 676, .inr (.inl f_137))), (p4, .inl (T 0, 672, .inl f_138))] hP hD [0, 1, 2, 3, 4, 5, 6, 7, 8, 9, 10, 11, 12] [0, 1, 2, 3, 4, 5, 6, 7, 8, 9, 10, 11, 12] rfl (by decide +kernel) rfl rfl rfl hk1 hP1
          clear hP1 hD1 hFc
          generalize H1 = H at hP hS ⊢
          exact W.vret hx hb hr (fun t ht hW => ⟨⟨(f_133, n_134, n_135, f_136, f_137, f_138), rfl, ⟨fal_p (show mu.toInt = 0 from by omega) (by omega) (by rw [hk9]; decide) (by rw [show spW pa x2 = z_124 from ez_124.symm, ← hpk_r_125]; exact ⟨(fun q9 => absurd q9 (by omega)), (fun _ => hflhr_131)⟩), hst⟩, by rw [ht]; exact hP.sub [0, 1, 2, 3, 4, 5, 6, 7, 8, 9, 10, 11, 12] rfl, hD.sub [0, 1, 2, 3, 4, 5, 6, 7, 8, 9, 10, 11, 12] (by decide +kernel) rfl⟩, hS.F ht⟩) hS.2.2 dX3_fall_296
        · rw [fa_eq] at c_130
          try rw [ti_n5] at c_130
          refine lv_aload_n hx hb dX3_fall_280 rfl (lv_at hl 2 rfl) ?_
          refine lv_iconst (v := 1) hx hb dX3_fall_281 (by decide +kernel) ?_
          refine va_put (D := D) (ci := 2) (v := .int 1) (ty := .boolean) (C := RX3) (T := TX3) (N := 7) hx hb hts in_X3_fall_X3 tyX3 tyX3_ok nmX3 hown hE.1 hP hD hS 0 rfl rfl 5 (by decide +kernel) (hts (.fieldLink RX3 19 "ClauseBook$Falling" "much" "Z") (List.mem_of_getElem? (i := 1) rfl)) (fun _ h9 => h9) rfl (by decide +kernel) rfl rfl (Nat.le_of_ble_eq_true rfl) dX3_fall_282 (fun H locs hP hD hS => ?_)
          obtain ⟨hP, hD⟩ := wPD [(h0, .inr (2, [.ref la, .ref cl, .ref wo, .ref on, .int dy, .int 1, .int pa])), (on, .inl (T 1, 7, .inr (.inl fo))), (wo, .inr (8, [.ref la, .ref cl, .ref p0, .ref p1, .ref p4, .int n])), (la, .inr (5, [.int (l9 0), .int (l9 1), .int (l9 2), .int (l9 3), .int (l9 4), .int (l9 5), .int (l9 6)])), (cl, .inr (1, [.int n0, .ref c1, .ref c2, .ref c3, .ref c4, .ref c5, .ref c6, .ref c7])), (c1, .inl (T 0, 24, .inl f1)), (c2, .inl (T 0, 24, .inl f2)), (c3, .inl (T 0, 24, .inl f3)), (c4, .inl (T 0, 24, .inl f4)), (c5, .inl (T 0, 24, .inl f5)), (p0, .inl (T 1, 676, .inr (.inl f_127))), (p1, .inl (T 1, 676, .inr (.inl f_128))), (p4, .inl (T 0, 672, .inl f_129))] hP hD rfl
          refine lv_goto (tgt := 296) hx hb dX3_fall_285 (by decide +kernel) ?_
          exact W.vret hx hb hr (fun t ht hW => ⟨⟨(fo, dy, 1, f_127, f_128, f_129), rfl, ⟨fal_p (show mu.toInt = 0 from by omega) (by omega) (by rw [hk9]; decide) (by rw [show spW pa x2 = z_124 from ez_124.symm, ← hpk_r_125]; exact ⟨(fun _ => (show ¬ (1 : Int32).toInt = 0 from by decide)), (fun q9 => absurd (by omega) q9)⟩), hst⟩, by rw [ht]; exact hP.sub [0, 1, 2, 3, 4, 5, 6, 7, 8, 9, 10, 11, 12] rfl, hD.sub [0, 1, 2, 3, 4, 5, 6, 7, 8, 9, 10, 11, 12] (by decide +kernel) rfl⟩, hS.F ht⟩) hS.2.2 dX3_fall_296
      · refine W.eq (g2 := F0 m 43 ls [.ref (ad 10), .ref (av 13)]) (by rw [hk9]) ?_
        have hc9 : 0 ≤ z_4.toInt ∧ z_4.toInt < x1.toInt := by
          have h := (hok _ (in24 (x := x1) (by omega)).1).2.1 (by rw [hk9]; decide)
          have h2 := (in24 (x := x1) (by omega)).2
          rw [ez_4]
          omega
        refine vp_callSi (va_Run.run (va_runU (As := []) (rest := [.ref (av 13)]) ⟨hx, hb, hml, hown, hts⟩ (c_Jx29ce0_ordinal_8abf5 l D T ad sa av ta 10 (by decide +kernel)) (va_cwU 0 hts gX3_fall_Jx29ce0_ordinal_8abf5_u63X7 rfl rfl rfl rfl (by decide +kernel) ⟨(show _ ≤ (2 * (d + 1) + 75 : Nat) from by (try dsimp only); omega), (show _ ≤ (64 * (d + 1) + 2400 : Nat) from by (try dsimp only); omega)⟩) (pRk_VE (i := 10) (by decide +kernel) hP hE hV hS [] rfl) rfl rfl hl.1 rfl (lv_room (Nat.le_of_ble_eq_true rfl)) dX3_fall_43 ⟨Nat.le_of_ble_eq_true rfl, Nat.le_of_ble_eq_true rfl⟩)) (fun r_139 hr_139 => ?_)
        obtain rfl : (odT 10) = r_139 := (hr_139).symm
        refine va_ti (v := .int (swT 10)) hx hb hV.2.2.2.2.2.1 hS (odT_in (by decide +kernel)) (congrArg (fun z => Value.int (swT z)) (odT_at (by decide +kernel))) dX3_fall_46 ?_
        refine lv_topi (fun z_140 ez_140 => ?_)
        obtain rfl : z_140 = 7 := ez_140.trans (by decide +kernel)
        refine lv_tableIn (off := 120) (tgt := 167) hx hb dX3_fall_47 (by decide +kernel) (by decide +kernel) (by decide +kernel) (by decide +kernel) ?_
        refine lv_aload_n hx hb dX3_fall_167 rfl (lv_at hl 1 rfl) ?_
        refine lv_iload hx hb dX3_fall_168 (lv_at hl 0 rfl) ?_
        refine lv_aload_n hx hb dX3_fall_170 rfl (lv_at hl 1 rfl) ?_
        refine va_get (D := D) (ci := 2) (v := .ref cl) (C := RX3) (T := TX3) (N := 7) hx hb hts in_X3_fall_X3 hown hE.1 hP 0 rfl rfl 1 (by decide +kernel) (hts (.fieldLink RX3 30 "ClauseBook$Falling" "clauses" "LClauseBook$Clauses;") (List.mem_of_getElem? (i := 2) rfl)) (fun _ h9 => h9) rfl dX3_fall_171 ?_
        refine va_get (D := D) (ci := 1) (v := .ref c5) (C := RX2) (T := TX2) (N := 8) hx hb hts in_X3_fall_X2 hown hE.1 hP 4 rfl rfl 5 (by decide +kernel) (hts (.fieldLink RX3 48 "ClauseBook$Clauses" "end" "[I") (List.mem_of_getElem? (i := 3) rfl)) (fun _ h9 => h9) rfl dX3_fall_174 ?_
        refine lv_iload_n hx hb dX3_fall_177 rfl (lv_at hl 2 rfl) ?_
        refine va_iald hx hb hE.1 hP 9 0 rfl rfl (by rw [vp_in_iff]; first | omega | (subst_vars; omega)) dX3_fall_178 ?_
        refine lv_topi (fun z_141 ez_141 => ?_)
        have hzz_141 : z_141.toInt = (f5 (x1.toNatClampNeg)).toInt := by rw [ez_141]
        refine lv_lload_n hx hb dX3_fall_179 rfl (lv_at hl 4 rfl) ?_
        have hFc := va_free (wc := [(h0, .inr (2, [.ref la, .ref cl, .ref wo, .ref on, .int dy, .int mu, .int pa])), (on, .inl (T 1, 7, .inr (.inl fo))), (wo, .inr (8, [.ref la, .ref cl, .ref p0, .ref p1, .ref p4, .int n])), (la, .inr (5, [.int (l9 0), .int (l9 1), .int (l9 2), .int (l9 3), .int (l9 4), .int (l9 5), .int (l9 6)])), (cl, .inr (1, [.int n0, .ref c1, .ref c2, .ref c3, .ref c4, .ref c5, .ref c6, .ref c7])), (c1, .inl (T 0, 24, .inl f1)), (c2, .inl (T 0, 24, .inl f2)), (c3, .inl (T 0, 24, .inl f3)), (c4, .inl (T 0, 24, .inl f4)), (c5, .inl (T 0, 24, .inl f5)), (p0, .inl (T 1, 676, .inr (.inl g0))), (p1, .inl (T 1, 676, .inr (.inl g1))), (p4, .inl (T 0, 672, .inl g4))]) hD hS hA [0, 1, 2, 3, 4, 5, 6, 7, 8, 9, 10, 11, 12] rfl
        refine va_callv (va_runV (As := [.int z_4, .int z_141, .long x3]) (rest := []) ⟨hx, hb, hml, hown, hts⟩ (hrec _ h0 on dy mu pa fo wo la cl p0 p1 p4 n l9 n0 c1 c2 c3 c4 c5 c6 c7 f1 f2 f3 f4 f5 g0 g1 g4 z_4 z_141 x3 (by omega) (by omega) (by omega) hok (by omega) hmm hlq (by omega)) (cwV 3 hts gX3_fall_X3_fall rfl rfl rfl hv_X3_fall ⟨(show _ ≤ (2 * (d + 1) + 75 : Nat) from by (try dsimp only); omega), (show _ ≤ (64 * (d + 1) + 2400 : Nat) from by (try dsimp only); omega)⟩) (pWk_V (q := (RX3, TX3, 7)) (ci := 2) (q0 := 0) hP hE hD hV hS hFc rfl rfl [0, 1, 2, 3, 4, 5, 6, 7, 8, 9, 10, 11, 12] (by decide +kernel) rfl rfl) rfl rfl hl.1 rfl (lv_room (Nat.le_of_ble_eq_true rfl)) dX3_fall_180 ⟨Nat.le_of_ble_eq_true rfl, Nat.le_of_ble_eq_true rfl⟩) hS (fun q _ h => hFc q h) hFc (fun u_143 t H1 locs ht hvm hr_142 hB hz1 hk1 hS => ?_)
        obtain ⟨f_144, n_145, n_146, f_147, f_148, f_149⟩ := u_143
        have hsfhr_142 : stW (VALW l9 f1 f2 f3 f4 f5) n0 n (fun _ => True) g0 g1 g4 f_147 f_148 f_149 := hr_142.2
        have hst : stW (VALW l9 f1 f2 f3 f4 f5) n0 n (fun _ => True) g0 g1 g4 f_147 f_148 f_149 := hst.tr hsfhr_142 (fun _ _ => trivial)
        have hmm : memW (VALW l9 f1 f2 f3 f4 f5) n0 n f_147 f_148 f_149 := hst.1
        have hflhr_142 : falP l9 f1 f2 f3 f4 f5 (VALW l9 f1 f2 f3 f4 f5) pa d z_4 z_141 x3 ((fo, dy, mu) : duS) ((f_144, n_145, n_146) : duS) := hr_142.1
        obtain ⟨hP1, hD1⟩ := hB
        rw [ht] at hP1
        obtain ⟨hP, hD⟩ := va_repl [(h0, .inr (2, [.ref la, .ref cl, .ref wo, .ref on, .int n_145, .int n_146, .int pa])), (on, .inl (T 1, 7, .inr (.inl f_144))), (wo, .inr (8, [.ref la, .ref cl, .ref p0, .ref p1, .ref p4, .int n])), (la, .inr (5, [.int (l9 0), .int (l9 1), .int (l9 2), .int (l9 3), .int (l9 4), .int (l9 5), .int (l9 6)])), (cl, .inr (1, [.int n0, .ref c1, .ref c2, .ref c3, .ref c4, .ref c5, .ref c6, .ref c7])), (c1, .inl (T 0, 24, .inl f1)), (c2, .inl (T 0, 24, .inl f2)), (c3, .inl (T 0, 24, .inl f3)), (c4, .inl (T 0, 24, .inl f4)), (c5, .inl (T 0, 24, .inl f5)), (p0, .inl (T 1, 676, .inr (.inl f_147))), (p1, .inl (T 1, 676, .inr (.inl f_148))), (p4, .inl (T 0, 672, .inl f_149))] hP hD [0, 1, 2, 3, 4, 5, 6, 7, 8, 9, 10, 11, 12] [0, 1, 2, 3, 4, 5, 6, 7, 8, 9, 10, 11, 12] rfl (by decide +kernel) rfl rfl rfl hk1 hP1
        clear hP1 hD1 hFc
        generalize H1 = H at hP hS ⊢
        refine lv_goto (tgt := 296) hx hb dX3_fall_183 (by decide +kernel) ?_
        exact W.vret hx hb hr (fun t ht hW => ⟨⟨(f_144, n_145, n_146, f_147, f_148, f_149), rfl, ⟨fal_10 (show mu.toInt = 0 from by omega) (by omega) hk9 (by rw [← ez_4, ← ez_141]; exact hflhr_142), hst⟩, by rw [ht]; exact hP.sub [0, 1, 2, 3, 4, 5, 6, 7, 8, 9, 10, 11, 12] rfl, hD.sub [0, 1, 2, 3, 4, 5, 6, 7, 8, 9, 10, 11, 12] (by decide +kernel) rfl⟩, hS.F ht⟩) hS.2.2 dX3_fall_296
      · refine W.eq (g2 := F0 m 43 ls [.ref (ad 11), .ref (av 13)]) (by rw [hk9]) ?_
        have hc9 : 0 ≤ z_4.toInt ∧ z_4.toInt < x1.toInt := by
          have h := (hok _ (in24 (x := x1) (by omega)).1).2.1 (by rw [hk9]; decide)
          have h2 := (in24 (x := x1) (by omega)).2
          rw [ez_4]
          omega
        refine vp_callSi (va_Run.run (va_runU (As := []) (rest := [.ref (av 13)]) ⟨hx, hb, hml, hown, hts⟩ (c_Jx29ce0_ordinal_8abf5 l D T ad sa av ta 11 (by decide +kernel)) (va_cwU 0 hts gX3_fall_Jx29ce0_ordinal_8abf5_u63X7 rfl rfl rfl rfl (by decide +kernel) ⟨(show _ ≤ (2 * (d + 1) + 75 : Nat) from by (try dsimp only); omega), (show _ ≤ (64 * (d + 1) + 2400 : Nat) from by (try dsimp only); omega)⟩) (pRk_VE (i := 11) (by decide +kernel) hP hE hV hS [] rfl) rfl rfl hl.1 rfl (lv_room (Nat.le_of_ble_eq_true rfl)) dX3_fall_43 ⟨Nat.le_of_ble_eq_true rfl, Nat.le_of_ble_eq_true rfl⟩)) (fun r_150 hr_150 => ?_)
        obtain rfl : (odT 11) = r_150 := (hr_150).symm
        refine va_ti (v := .int (swT 11)) hx hb hV.2.2.2.2.2.1 hS (odT_in (by decide +kernel)) (congrArg (fun z => Value.int (swT z)) (odT_at (by decide +kernel))) dX3_fall_46 ?_
        refine lv_topi (fun z_151 ez_151 => ?_)
        obtain rfl : z_151 = 8 := ez_151.trans (by decide +kernel)
        refine lv_tableIn (off := 165) (tgt := 212) hx hb dX3_fall_47 (by decide +kernel) (by decide +kernel) (by decide +kernel) (by decide +kernel) ?_
        refine lv_aload_n hx hb dX3_fall_212 rfl (lv_at hl 1 rfl) ?_
        refine va_get (D := D) (ci := 2) (v := .ref wo) (C := RX3) (T := TX3) (N := 7) hx hb hts in_X3_fall_X3 hown hE.1 hP 0 rfl rfl 2 (by decide +kernel) (hts (.fieldLink RX3 34 "ClauseBook$Falling" "worth" "LClauseBook$Worth;") (List.mem_of_getElem? (i := 11) rfl)) (fun _ h9 => h9) rfl dX3_fall_213 ?_
        refine lv_iload_n hx hb dX3_fall_216 rfl (lv_at hl 2 rfl) ?_
        refine lv_iload_n hx hb dX3_fall_217 rfl (lv_at hl 3 rfl) ?_
        refine lv_aload_n hx hb dX3_fall_218 rfl (lv_at hl 1 rfl) ?_
        refine va_get (D := D) (ci := 2) (v := .int pa) (C := RX3) (T := TX3) (N := 7) hx hb hts in_X3_fall_X3 hown hE.1 hP 0 rfl rfl 6 (by decide +kernel) (hts (.fieldLink RX3 23 "ClauseBook$Falling" "path" "I") (List.mem_of_getElem? (i := 9) rfl)) (fun _ h9 => h9) rfl dX3_fall_219 ?_
        have hFc := va_free (wc := [(wo, .inr (8, [.ref la, .ref cl, .ref p0, .ref p1, .ref p4, .int n])), (la, .inr (5, [.int (l9 0), .int (l9 1), .int (l9 2), .int (l9 3), .int (l9 4), .int (l9 5), .int (l9 6)])), (cl, .inr (1, [.int n0, .ref c1, .ref c2, .ref c3, .ref c4, .ref c5, .ref c6, .ref c7])), (c1, .inl (T 0, 24, .inl f1)), (c2, .inl (T 0, 24, .inl f2)), (c3, .inl (T 0, 24, .inl f3)), (c4, .inl (T 0, 24, .inl f4)), (c5, .inl (T 0, 24, .inl f5)), (p0, .inl (T 1, 676, .inr (.inl g0))), (p1, .inl (T 1, 676, .inr (.inl g1))), (p4, .inl (T 0, 672, .inl g4))]) hD hS hA [2, 3, 4, 5, 6, 7, 8, 9, 10, 11, 12] rfl
        refine va_calli (va_runV (As := [.int x1, .int x2, .int pa]) (rest := []) ⟨hx, hb, hml, hown, hts⟩ (c_X11_takenOn l D T ad sa av ta _ wo la cl p0 p1 p4 n l9 n0 c1 c2 c3 c4 c5 c6 c7 f1 f2 f3 f4 f5 g0 g1 g4 x1 x2 pa (by omega) (by omega) (by omega) hok hk9 (by omega) (by omega) hmm hlq) (cwV 3 hts gX3_fall_X11_takenOn rfl rfl rfl hv_X11_takenOn ⟨(show _ ≤ (2 * (d + 1) + 75 : Nat) from by (try dsimp only); omega), (show _ ≤ (64 * (d + 1) + 2400 : Nat) from by (try dsimp only); omega)⟩) (pWk_V (q := (RX11, TX11, 6)) (ci := 8) (q0 := 2) hP hE hD hV hS hFc rfl rfl [2, 3, 4, 5, 6, 7, 8, 9, 10, 11, 12] (by decide +kernel) rfl rfl) rfl rfl hl.1 rfl (lv_room (Nat.le_of_ble_eq_true rfl)) dX3_fall_222 ⟨Nat.le_of_ble_eq_true rfl, Nat.le_of_ble_eq_true rfl⟩) hS (fun q _ h => hFc q h) hFc (fun r_152 u_153 t H1 locs ht hvm hr_152 hB hz1 hk1 hS => ?_)
        obtain ⟨f_154, f_155, f_156⟩ := u_153
        obtain ⟨hqr_152, htk_r_152, hstr_152⟩ := hr_152
        have hqr_152 : r_152.toInt = -5 ∨ (0 ≤ r_152.toInt ∧ r_152.toInt ≤ 6) := hqr_152
        have htk_r_152 : takQ l9 f3 (VALW l9 f1 f2 f3 f4 f5) (f5 (x1.toNatClampNeg)).toInt x1 pa x2 r_152 := htk_r_152
        have hsr_152 : stW (VALW l9 f1 f2 f3 f4 f5) n0 n (fun _ => True) g0 g1 g4 f_154 f_155 f_156 := hstr_152
        have hst : stW (VALW l9 f1 f2 f3 f4 f5) n0 n (fun _ => True) g0 g1 g4 f_154 f_155 f_156 := hst.tr hsr_152 (fun _ _ => trivial)
        have hmm : memW (VALW l9 f1 f2 f3 f4 f5) n0 n f_154 f_155 f_156 := hst.1
        obtain ⟨hP1, hD1⟩ := hB
        rw [ht] at hP1
        obtain ⟨hP, hD⟩ := va_repl [(h0, .inr (2, [.ref la, .ref cl, .ref wo, .ref on, .int dy, .int mu, .int pa])), (on, .inl (T 1, 7, .inr (.inl fo))), (wo, .inr (8, [.ref la, .ref cl, .ref p0, .ref p1, .ref p4, .int n])), (la, .inr (5, [.int (l9 0), .int (l9 1), .int (l9 2), .int (l9 3), .int (l9 4), .int (l9 5), .int (l9 6)])), (cl, .inr (1, [.int n0, .ref c1, .ref c2, .ref c3, .ref c4, .ref c5, .ref c6, .ref c7])), (c1, .inl (T 0, 24, .inl f1)), (c2, .inl (T 0, 24, .inl f2)), (c3, .inl (T 0, 24, .inl f3)), (c4, .inl (T 0, 24, .inl f4)), (c5, .inl (T 0, 24, .inl f5)), (p0, .inl (T 1, 676, .inr (.inl f_154))), (p1, .inl (T 1, 676, .inr (.inl f_155))), (p4, .inl (T 0, 672, .inl f_156))] hP hD [2, 3, 4, 5, 6, 7, 8, 9, 10, 11, 12] [2, 3, 4, 5, 6, 7, 8, 9, 10, 11, 12] rfl (by decide +kernel) rfl rfl rfl hk1 hP1
        clear hP1 hD1 hFc
        generalize H1 = H at hP hS ⊢
        refine lv_istore (lv' := [(6, .int r_152), (5, .int z_4), (0, .ref h0), (1, .int x1), (2, .int x2), (3, .long x3)]) hx hb dX3_fall_225 hl (by decide +kernel) rfl (fun ls hl => ?_)
        refine lv_iload hx hb dX3_fall_227 (lv_at hl 0 rfl) ?_
        refine lv_bipush (v := (-5)) hx hb dX3_fall_229 (by decide +kernel) ?_
        refine lv_icmp_ne (tgt := 242) hx hb dX3_fall_231 (by decide +kernel) (fun c_157 => ?_) (fun c_157 => ?_)
        · rw [fa_eq] at c_157
          try rw [ti_n5] at c_157
          refine lv_aload_n hx hb dX3_fall_242 rfl (lv_at hl 2 rfl) ?_
          refine lv_iload hx hb dX3_fall_243 (lv_at hl 1 rfl) ?_
          refine lv_iload hx hb dX3_fall_245 (lv_at hl 0 rfl) ?_
          refine lv_lload_n hx hb dX3_fall_247 rfl (lv_at hl 5 rfl) ?_
          have hFc := va_free (wc := [(h0, .inr (2, [.ref la, .ref cl, .ref wo, .ref on, .int dy, .int mu, .int pa])), (on, .inl (T 1, 7, .inr (.inl fo))), (wo, .inr (8, [.ref la, .ref cl, .ref p0, .ref p1, .ref p4, .int n])), (la, .inr (5, [.int (l9 0), .int (l9 1), .int (l9 2), .int (l9 3), .int (l9 4), .int (l9 5), .int (l9 6)])), (cl, .inr (1, [.int n0, .ref c1, .ref c2, .ref c3, .ref c4, .ref c5, .ref c6, .ref c7])), (c1, .inl (T 0, 24, .inl f1)), (c2, .inl (T 0, 24, .inl f2)), (c3, .inl (T 0, 24, .inl f3)), (c4, .inl (T 0, 24, .inl f4)), (c5, .inl (T 0, 24, .inl f5)), (p0, .inl (T 1, 676, .inr (.inl f_154))), (p1, .inl (T 1, 676, .inr (.inl f_155))), (p4, .inl (T 0, 672, .inl f_156))]) hD hS hA [0, 1, 2, 3, 4, 5, 6, 7, 8, 9, 10, 11, 12] rfl
          refine va_callv (va_runV (As := [.int z_4, .int r_152, .long x3]) (rest := []) ⟨hx, hb, hml, hown, hts⟩ (hrec _ h0 on dy mu pa fo wo la cl p0 p1 p4 n l9 n0 c1 c2 c3 c4 c5 c6 c7 f1 f2 f3 f4 f5 f_154 f_155 f_156 z_4 r_152 x3 (by omega) (by omega) (by omega) hok (by omega) hmm hlq (by omega)) (cwV 3 hts gX3_fall_X3_fall rfl rfl rfl hv_X3_fall ⟨(show _ ≤ (2 * (d + 1) + 75 : Nat) from by (try dsimp only); omega), (show _ ≤ (64 * (d + 1) + 2400 : Nat) from by (try dsimp only); omega)⟩) (pWk_V (q := (RX3, TX3, 7)) (ci := 2) (q0 := 0) hP hE hD hV hS hFc rfl rfl [0, 1, 2, 3, 4, 5, 6, 7, 8, 9, 10, 11, 12] (by decide +kernel) rfl rfl) rfl rfl hl.1 rfl (lv_room (Nat.le_of_ble_eq_true rfl)) dX3_fall_248 ⟨Nat.le_of_ble_eq_true rfl, Nat.le_of_ble_eq_true rfl⟩) hS (fun q _ h => hFc q h) hFc (fun u_159 t H1 locs ht hvm hr_158 hB hz1 hk1 hS => ?_)
          obtain ⟨f_160, n_161, n_162, f_163, f_164, f_165⟩ := u_159
          have hsfhr_158 : stW (VALW l9 f1 f2 f3 f4 f5) n0 n (fun _ => True) f_154 f_155 f_156 f_163 f_164 f_165 := hr_158.2
          have hst : stW (VALW l9 f1 f2 f3 f4 f5) n0 n (fun _ => True) g0 g1 g4 f_163 f_164 f_165 := hst.tr hsfhr_158 (fun _ _ => trivial)
          have hmm : memW (VALW l9 f1 f2 f3 f4 f5) n0 n f_163 f_164 f_165 := hst.1
          have hflhr_158 : falP l9 f1 f2 f3 f4 f5 (VALW l9 f1 f2 f3 f4 f5) pa d z_4 r_152 x3 ((fo, dy, mu) : duS) ((f_160, n_161, n_162) : duS) := hr_158.1
          obtain ⟨hP1, hD1⟩ := hB
          rw [ht] at hP1
          obtain ⟨hP, hD⟩ := va_repl [(h0, .inr (2, [.ref la, .ref cl, .ref wo, .ref on, .int n_161, .int n_162, .int pa])), (on, .inl (T 1, 7, .inr (.inl f_160))), (wo, .inr (8, [.ref la, .ref cl, .ref p0, .ref p1, .ref p4, .int n])), (la, .inr (5, [.int (l9 0), .int (l9 1), .int (l9 2), .int (l9 3), .int (l9 4), .int (l9 5), .int (l9 6)])), (cl, .inr (1, [.int n0, .ref c1, .ref c2, .ref c3, .ref c4, .ref c5, .ref c6, .ref c7])), (c1, .inl (T 0, 24, .inl f1)), (c2, .inl (T 0, 24, .inl f2)), (c3, .inl (T 0, 24, .inl f3)), (c4, .inl (T 0, 24, .inl f4)), (c5, .inl (T 0, 24, .inl f5)), (p0, .inl (T 1, 676, .inr (.inl f_163))), (p1, .inl (T 1, 676, .inr (.inl f_164))), (p4, .inl (T 0, 672, .inl f_165))] hP hD [0, 1, 2, 3, 4, 5, 6, 7, 8, 9, 10, 11, 12] [0, 1, 2, 3, 4, 5, 6, 7, 8, 9, 10, 11, 12] rfl (by decide +kernel) rfl rfl rfl hk1 hP1
          clear hP1 hD1 hFc
          generalize H1 = H at hP hS ⊢
          refine lv_goto (tgt := 296) hx hb dX3_fall_251 (by decide +kernel) ?_
          exact W.vret hx hb hr (fun t ht hW => ⟨⟨(f_160, n_161, n_162, f_163, f_164, f_165), rfl, ⟨fal_11 (show mu.toInt = 0 from by omega) (by omega) hk9 htk_r_152 ⟨(fun q9 => absurd q9 (by omega)), (fun _ => (by rw [← ez_4]; exact hflhr_158))⟩, hst⟩, by rw [ht]; exact hP.sub [0, 1, 2, 3, 4, 5, 6, 7, 8, 9, 10, 11, 12] rfl, hD.sub [0, 1, 2, 3, 4, 5, 6, 7, 8, 9, 10, 11, 12] (by decide +kernel) rfl⟩, hS.F ht⟩) hS.2.2 dX3_fall_296
        · rw [fa_eq] at c_157
          try rw [ti_n5] at c_157
          refine lv_aload_n hx hb dX3_fall_234 rfl (lv_at hl 2 rfl) ?_
          refine lv_iconst (v := 1) hx hb dX3_fall_235 (by decide +kernel) ?_
          refine va_put (D := D) (ci := 2) (v := .int 1) (ty := .boolean) (C := RX3) (T := TX3) (N := 7) hx hb hts in_X3_fall_X3 tyX3 tyX3_ok nmX3 hown hE.1 hP hD hS 0 rfl rfl 5 (by decide +kernel) (hts (.fieldLink RX3 19 "ClauseBook$Falling" "much" "Z") (List.mem_of_getElem? (i := 1) rfl)) (fun _ h9 => h9) rfl (by decide +kernel) rfl rfl (Nat.le_of_ble_eq_true rfl) dX3_fall_236 (fun H locs hP hD hS => ?_)
          obtain ⟨hP, hD⟩ := wPD [(h0, .inr (2, [.ref la, .ref cl, .ref wo, .ref on, .int dy, .int 1, .int pa])), (on, .inl (T 1, 7, .inr (.inl fo))), (wo, .inr (8, [.ref la, .ref cl, .ref p0, .ref p1, .ref p4, .int n])), (la, .inr (5, [.int (l9 0), .int (l9 1), .int (l9 2), .int (l9 3), .int (l9 4), .int (l9 5), .int (l9 6)])), (cl, .inr (1, [.int n0, .ref c1, .ref c2, .ref c3, .ref c4, .ref c5, .ref c6, .ref c7])), (c1, .inl (T 0, 24, .inl f1)), (c2, .inl (T 0, 24, .inl f2)), (c3, .inl (T 0, 24, .inl f3)), (c4, .inl (T 0, 24, .inl f4)), (c5, .inl (T 0, 24, .inl f5)), (p0, .inl (T 1, 676, .inr (.inl f_154))), (p1, .inl (T 1, 676, .inr (.inl f_155))), (p4, .inl (T 0, 672, .inl f_156))] hP hD rfl
          refine lv_goto (tgt := 296) hx hb dX3_fall_239 (by decide +kernel) ?_
          exact W.vret hx hb hr (fun t ht hW => ⟨⟨(fo, dy, 1, f_154, f_155, f_156), rfl, ⟨fal_11 (show mu.toInt = 0 from by omega) (by omega) hk9 htk_r_152 ⟨(fun _ => (show ¬ (1 : Int32).toInt = 0 from by decide)), (fun q9 => absurd (by omega) q9)⟩, hst⟩, by rw [ht]; exact hP.sub [0, 1, 2, 3, 4, 5, 6, 7, 8, 9, 10, 11, 12] rfl, hD.sub [0, 1, 2, 3, 4, 5, 6, 7, 8, 9, 10, 11, 12] (by decide +kernel) rfl⟩, hS.F ht⟩) hS.2.2 dX3_fall_296
      · refine W.eq (g2 := F0 m 43 ls [.ref (ad 12), .ref (av 13)]) (by rw [hk9]) ?_
        have hc9 : 0 ≤ z_4.toInt ∧ z_4.toInt < x1.toInt := by
          have h := (hok _ (in24 (x := x1) (by omega)).1).2.1 (by rw [hk9]; decide)
          have h2 := (in24 (x := x1) (by omega)).2
          rw [ez_4]
          omega
        have hd9 : 0 ≤ (f4 (x1.toNatClampNeg)).toInt ∧ (f4 (x1.toNatClampNeg)).toInt < x1.toInt := by
          have h := (hok _ (in24 (x := x1) (by omega)).1).2.2.1 (by rw [hk9]; decide)
          have h2 := (in24 (x := x1) (by omega)).2
          omega
        refine vp_callSi (va_Run.run (va_runU (As := []) (rest := [.ref (av 13)]) ⟨hx, hb, hml, hown, hts⟩ (c_Jx29ce0_ordinal_8abf5 l D T ad sa av ta 12 (by decide +kernel)) (va_cwU 0 hts gX3_fall_Jx29ce0_ordinal_8abf5_u63X7 rfl rfl rfl rfl (by decide +kernel) ⟨(show _ ≤ (2 * (d + 1) + 75 : Nat) from by (try dsimp only); omega), (show _ ≤ (64 * (d + 1) + 2400 : Nat) from by (try dsimp only); omega)⟩) (pRk_VE (i := 12) (by decide +kernel) hP hE hV hS [] rfl) rfl rfl hl.1 rfl (lv_room (Nat.le_of_ble_eq_true rfl)) dX3_fall_43 ⟨Nat.le_of_ble_eq_true rfl, Nat.le_of_ble_eq_true rfl⟩)) (fun r_166 hr_166 => ?_)
        obtain rfl : (odT 12) = r_166 := (hr_166).symm
        refine va_ti (v := .int (swT 12)) hx hb hV.2.2.2.2.2.1 hS (odT_in (by decide +kernel)) (congrArg (fun z => Value.int (swT z)) (odT_at (by decide +kernel))) dX3_fall_46 ?_
        refine lv_topi (fun z_167 ez_167 => ?_)
        obtain rfl : z_167 = 0 := ez_167.trans (by decide +kernel)
        refine lv_tableOut (tgt := 254) hx hb dX3_fall_47 (by decide +kernel) (by decide +kernel) ?_
        refine lv_aload_n hx hb dX3_fall_254 rfl (lv_at hl 1 rfl) ?_
        refine va_get (D := D) (ci := 2) (v := .ref wo) (C := RX3) (T := TX3) (N := 7) hx hb hts in_X3_fall_X3 hown hE.1 hP 0 rfl rfl 2 (by decide +kernel) (hts (.fieldLink RX3 34 "ClauseBook$Falling" "worth" "LClauseBook$Worth;") (List.mem_of_getElem? (i := 11) rfl)) (fun _ h9 => h9) rfl dX3_fall_255 ?_
        refine lv_iload_n hx hb dX3_fall_258 rfl (lv_at hl 2 rfl) ?_
        refine lv_iload_n hx hb dX3_fall_259 rfl (lv_at hl 3 rfl) ?_
        refine lv_aload_n hx hb dX3_fall_260 rfl (lv_at hl 1 rfl) ?_
        refine va_get (D := D) (ci := 2) (v := .int pa) (C := RX3) (T := TX3) (N := 7) hx hb hts in_X3_fall_X3 hown hE.1 hP 0 rfl rfl 6 (by decide +kernel) (hts (.fieldLink RX3 23 "ClauseBook$Falling" "path" "I") (List.mem_of_getElem? (i := 9) rfl)) (fun _ h9 => h9) rfl dX3_fall_261 ?_
        refine lv_iload_n hx hb dX3_fall_264 rfl (lv_at hl 3 rfl) ?_
        refine vp_callSi (W.runS (As := [.int pa, .int x2]) (rest := [.int x2, .int x1, .ref wo]) ⟨hx, hb, hml, hown, hts⟩ (c_X8_spotOn l D T pa x2) (va_cwS 2 hts gX3_fall_X8_spotOn rfl rfl rfl hs_X8_spotOn ⟨(show _ ≤ (2 * (d + 1) + 75 : Nat) from by (try dsimp only); omega), (show _ ≤ (64 * (d + 1) + 2400 : Nat) from by (try dsimp only); omega)⟩) (pR_S hP hE [] rfl) rfl rfl hl.1 rfl (lv_room (Nat.le_of_ble_eq_true rfl)) dX3_fall_265 ⟨Nat.le_of_ble_eq_true rfl, Nat.le_of_ble_eq_true rfl⟩) (fun r_168 hr_168 => ?_)
        obtain rfl : (sp_bits (pa &&& ((1 <<< (x2 &&& 31)) - 1))) = r_168 := (hr_168).symm
        refine lv_topi (fun z_169 ez_169 => ?_)
        have hsp9 : 0 ≤ z_169.toInt ∧ z_169.toInt ≤ x2.toInt := by rw [ez_169]; exact spot_in (by omega) (by omega)
        have hFc := va_free (wc := [(wo, .inr (8, [.ref la, .ref cl, .ref p0, .ref p1, .ref p4, .int n])), (la, .inr (5, [.int (l9 0), .int (l9 1), .int (l9 2), .int (l9 3), .int (l9 4), .int (l9 5), .int (l9 6)])), (cl, .inr (1, [.int n0, .ref c1, .ref c2, .ref c3, .ref c4, .ref c5, .ref c6, .ref c7])), (c1, .inl (T 0, 24, .inl f1)), (c2, .inl (T 0, 24, .inl f2)), (c3, .inl (T 0, 24, .inl f3)), (c4, .inl (T 0, 24, .inl f4)), (c5, .inl (T 0, 24, .inl f5)), (p0, .inl (T 1, 676, .inr (.inl g0))), (p1, .inl (T 1, 676, .inr (.inl g1))), (p4, .inl (T 0, 672, .inl g4))]) hD hS hA [2, 3, 4, 5, 6, 7, 8, 9, 10, 11, 12] rfl
        refine va_calli (va_runV (As := [.int x1, .int x2, .int z_169]) (rest := []) ⟨hx, hb, hml, hown, hts⟩ (s_X11_picked l D T ad sa av ta _ wo la cl p0 p1 p4 n l9 n0 c1 c2 c3 c4 c5 c6 c7 f1 f2 f3 f4 f5 g0 g1 g4 30 x1 x2 z_169 (by omega) (by omega) (by omega) hok (by omega) hmm hlq (by omega) (by omega) (cS_all l D T ad sa av ta 30)) (cwV 3 hts gX3_fall_X11_picked rfl rfl rfl hv_X11_picked ⟨(show _ ≤ (2 * (d + 1) + 75 : Nat) from by (try dsimp only); omega), (show _ ≤ (64 * (d + 1) + 2400 : Nat) from by (try dsimp only); omega)⟩) (pWk_V (q := (RX11, TX11, 6)) (ci := 8) (q0 := 2) hP hE hD hV hS hFc rfl rfl [2, 3, 4, 5, 6, 7, 8, 9, 10, 11, 12] (by decide +kernel) rfl rfl) rfl rfl hl.1 rfl (lv_room (Nat.le_of_ble_eq_true rfl)) dX3_fall_268 ⟨Nat.le_of_ble_eq_true rfl, Nat.le_of_ble_eq_true rfl⟩) hS (fun q _ h => hFc q h) hFc (fun r_170 u_171 t H1 locs ht hvm hr_170 hB hz1 hk1 hS => ?_)
        obtain ⟨f_172, f_173, f_174⟩ := u_171
        obtain ⟨hqr_170, hpk_r_170, hstr_170⟩ := hr_170
        have hqr_170 : r_170.toInt = -5 ∨ (0 ≤ r_170.toInt ∧ r_170.toInt < x1.toInt) := hqr_170
        have hpk_r_170 : r_170 = pickW l9 f1 f2 f3 f4 f5 (VALW l9 f1 f2 f3 f4 f5) x1 x2 z_169 := hpk_r_170
        have hsr_170 : stW (VALW l9 f1 f2 f3 f4 f5) n0 n (rgP x1) g0 g1 g4 f_172 f_173 f_174 := hstr_170
        have hst : stW (VALW l9 f1 f2 f3 f4 f5) n0 n (fun _ => True) g0 g1 g4 f_172 f_173 f_174 := hst.tr hsr_170 (fun _ _ => trivial)
        have hmm : memW (VALW l9 f1 f2 f3 f4 f5) n0 n f_172 f_173 f_174 := hst.1
        obtain ⟨hP1, hD1⟩ := hB
        rw [ht] at hP1
        obtain ⟨hP, hD⟩ := va_repl [(h0, .inr (2, [.ref la, .ref cl, .ref wo, .ref on, .int dy, .int mu, .int pa])), (on, .inl (T 1, 7, .inr (.inl fo))), (wo, .inr (8, [.ref la, .ref cl, .ref p0, .ref p1, .ref p4, .int n])), (la, .inr (5, [.int (l9 0), .int (l9 1), .int (l9 2), .int (l9 3), .int (l9 4), .int (l9 5), .int (l9 6)])), (cl, .inr (1, [.int n0, .ref c1, .ref c2, .ref c3, .ref c4, .ref c5, .ref c6, .ref c7])), (c1, .inl (T 0, 24, .inl f1)), (c2, .inl (T 0, 24, .inl f2)), (c3, .inl (T 0, 24, .inl f3)), (c4, .inl (T 0, 24, .inl f4)), (c5, .inl (T 0, 24, .inl f5)), (p0, .inl (T 1, 676, .inr (.inl f_172))), (p1, .inl (T 1, 676, .inr (.inl f_173))), (p4, .inl (T 0, 672, .inl f_174))] hP hD [2, 3, 4, 5, 6, 7, 8, 9, 10, 11, 12] [2, 3, 4, 5, 6, 7, 8, 9, 10, 11, 12] rfl (by decide +kernel) rfl rfl rfl hk1 hP1
        clear hP1 hD1 hFc
        generalize H1 = H at hP hS ⊢
        refine lv_istore (lv' := [(7, .int r_170), (5, .int z_4), (0, .ref h0), (1, .int x1), (2, .int x2), (3, .long x3)]) hx hb dX3_fall_271 hl (by decide +kernel) rfl (fun ls hl => ?_)
        refine lv_iload hx hb dX3_fall_273 (lv_at hl 0 rfl) ?_
        refine lv_bipush (v := (-5)) hx hb dX3_fall_275 (by decide +kernel) ?_
        refine lv_icmp_ne (tgt := 288) hx hb dX3_fall_277 (by decide +kernel) (fun c_175 => ?_) (fun c_175 => ?_)
        · rw [fa_eq] at c_175
          try rw [ti_n5] at c_175
          refine lv_aload_n hx hb dX3_fall_288 rfl (lv_at hl 2 rfl) ?_
          refine lv_iload hx hb dX3_fall_289 (lv_at hl 0 rfl) ?_
          refine lv_iload_n hx hb dX3_fall_291 rfl (lv_at hl 4 rfl) ?_
          refine lv_lload_n hx hb dX3_fall_292 rfl (lv_at hl 5 rfl) ?_
          have hFc := va_free (wc := [(h0, .inr (2, [.ref la, .ref cl, .ref wo, .ref on, .int dy, .int mu, .int pa])), (on, .inl (T 1, 7, .inr (.inl fo))), (wo, .inr (8, [.ref la, .ref cl, .ref p0, .ref p1, .ref p4, .int n])), (la, .inr (5, [.int (l9 0), .int (l9 1), .int (l9 2), .int (l9 3), .int (l9 4), .int (l9 5), .int (l9 6)])), (cl, .inr (1, [.int n0, .ref c1, .ref c2, .ref c3, .ref c4, .ref c5, .ref c6, .ref c7])), (c1, .inl (T 0, 24, .inl f1)), (c2, .inl (T 0, 24, .inl f2)), (c3, .inl (T 0, 24, .inl f3)), (c4, .inl (T 0, 24, .inl f4)), (c5, .inl (T 0, 24, .inl f5)), (p0, .inl (T 1, 676, .inr (.inl f_172))), (p1, .inl (T 1, 676, .inr (.inl f_173))), (p4, .inl (T 0, 672, .inl f_174))]) hD hS hA [0, 1, 2, 3, 4, 5, 6, 7, 8, 9, 10, 11, 12] rfl
          refine va_callv (va_runV (As := [.int r_170, .int x2, .long x3]) (rest := []) ⟨hx, hb, hml, hown, hts⟩ (hrec _ h0 on dy mu pa fo wo la cl p0 p1 p4 n l9 n0 c1 c2 c3 c4 c5 c6 c7 f1 f2 f3 f4 f5 f_172 f_173 f_174 r_170 x2 x3 (by omega) (by omega) (by omega) hok (by omega) hmm hlq (by omega)) (cwV 3 hts gX3_fall_X3_fall rfl rfl rfl hv_X3_fall ⟨(show _ ≤ (2 * (d + 1) + 75 : Nat) from by (try dsimp only); omega), (show _ ≤ (64 * (d + 1) + 2400 : Nat) from by (try dsimp only); omega)⟩) (pWk_V (q := (RX3, TX3, 7)) (ci := 2) (q0 := 0) hP hE hD hV hS hFc rfl rfl [0, 1, 2, 3, 4, 5, 6, 7, 8, 9, 10, 11, 12] (by decide +kernel) rfl rfl) rfl rfl hl.1 rfl (lv_room (Nat.le_of_ble_eq_true rfl)) dX3_fall_293 ⟨Nat.le_of_ble_eq_true rfl, Nat.le_of_ble_eq_true rfl⟩) hS (fun q _ h => hFc q h) hFc (fun u_177 t H1 locs ht hvm hr_176 hB hz1 hk1 hS => ?_)
          obtain ⟨f_178, n_179, n_180, f_181, f_182, f_183⟩ := u_177
          have hsfhr_176 : stW (VALW l9 f1 f2 f3 f4 f5) n0 n (fun _ => True) f_172 f_173 f_174 f_181 f_182 f_183 := hr_176.2
          have hst : stW (VALW l9 f1 f2 f3 f4 f5) n0 n (fun _ => True) g0 g1 g4 f_181 f_182 f_183 := hst.tr hsfhr_176 (fun _ _ => trivial)
          have hmm : memW (VALW l9 f1 f2 f3 f4 f5) n0 n f_181 f_182 f_183 := hst.1
          have hflhr_176 : falP l9 f1 f2 f3 f4 f5 (VALW l9 f1 f2 f3 f4 f5) pa d r_170 x2 x3 ((fo, dy, mu) : duS) ((f_178, n_179, n_180) : duS) := hr_176.1
          obtain ⟨hP1, hD1⟩ := hB
          rw [ht] at hP1
          obtain ⟨hP, hD⟩ := va_repl [(h0, .inr (2, [.ref la, .ref cl, .ref wo, .ref on, .int n_179, .int n_180, .int pa])), (on, .inl (T 1, 7, .inr (.inl f_178))), (wo, .inr (8, [.ref la, .ref cl, .ref p0, .ref p1, .ref p4, .int n])), (la, .inr (5, [.int (l9 0), .int (l9 1), .int (l9 2), .int (l9 3), .int (l9 4), .int (l9 5), .int (l9 6)])), (cl, .inr (1, [.int n0, .ref c1, .ref c2, .ref c3, .ref c4, .ref c5, .ref c6, .ref c7])), (c1, .inl (T 0, 24, .inl f1)), (c2, .inl (T 0, 24, .inl f2)), (c3, .inl (T 0, 24, .inl f3)), (c4, .inl (T 0, 24, .inl f4)), (c5, .inl (T 0, 24, .inl f5)), (p0, .inl (T 1, 676, .inr (.inl f_181))), (p1, .inl (T 1, 676, .inr (.inl f_182))), (p4, .inl (T 0, 672, .inl f_183))] hP hD [0, 1, 2, 3, 4, 5, 6, 7, 8, 9, 10, 11, 12] [0, 1, 2, 3, 4, 5, 6, 7, 8, 9, 10, 11, 12] rfl (by decide +kernel) rfl rfl rfl hk1 hP1
          clear hP1 hD1 hFc
          generalize H1 = H at hP hS ⊢
          exact W.vret hx hb hr (fun t ht hW => ⟨⟨(f_178, n_179, n_180, f_181, f_182, f_183), rfl, ⟨fal_p (show mu.toInt = 0 from by omega) (by omega) (by rw [hk9]; decide) (by rw [show spW pa x2 = z_169 from ez_169.symm, ← hpk_r_170]; exact ⟨(fun q9 => absurd q9 (by omega)), (fun _ => hflhr_176)⟩), hst⟩, by rw [ht]; exact hP.sub [0, 1, 2, 3, 4, 5, 6, 7, 8, 9, 10, 11, 12] rfl, hD.sub [0, 1, 2, 3, 4, 5, 6, 7, 8, 9, 10, 11, 12] (by decide +kernel) rfl⟩, hS.F ht⟩) hS.2.2 dX3_fall_296
        · rw [fa_eq] at c_175
          try rw [ti_n5] at c_175
          refine lv_aload_n hx hb dX3_fall_280 rfl (lv_at hl 2 rfl) ?_
          refine lv_iconst (v := 1) hx hb dX3_fall_281 (by decide +kernel) ?_
          refine va_put (D := D) (ci := 2) (v := .int 1) (ty := .boolean) (C := RX3) (T := TX3) (N := 7) hx hb hts in_X3_fall_X3 tyX3 tyX3_ok nmX3 hown hE.1 hP hD hS 0 rfl rfl 5 (by decide +kernel) (hts (.fieldLink RX3 19 "ClauseBook$Falling" "much" "Z") (List.mem_of_getElem? (i := 1) rfl)) (fun _ h9 => h9) rfl (by decide +kernel) rfl rfl (Nat.le_of_ble_eq_true rfl) dX3_fall_282 (fun H locs hP hD hS => ?_)
          obtain ⟨hP, hD⟩ := wPD [(h0, .inr (2, [.ref la, .ref cl, .ref wo, .ref on, .int dy, .int 1, .int pa])), (on, .inl (T 1, 7, .inr (.inl fo))), (wo, .inr (8, [.ref la, .ref cl, .ref p0, .ref p1, .ref p4, .int n])), (la, .inr (5, [.int (l9 0), .int (l9 1), .int (l9 2), .int (l9 3), .int (l9 4), .int (l9 5), .int (l9 6)])), (cl, .inr (1, [.int n0, .ref c1, .ref c2, .ref c3, .ref c4, .ref c5, .ref c6, .ref c7])), (c1, .inl (T 0, 24, .inl f1)), (c2, .inl (T 0, 24, .inl f2)), (c3, .inl (T 0, 24, .inl f3)), (c4, .inl (T 0, 24, .inl f4)), (c5, .inl (T 0, 24, .inl f5)), (p0, .inl (T 1, 676, .inr (.inl f_172))), (p1, .inl (T 1, 676, .inr (.inl f_173))), (p4, .inl (T 0, 672, .inl f_174))] hP hD rfl
          refine lv_goto (tgt := 296) hx hb dX3_fall_285 (by decide +kernel) ?_
          exact W.vret hx hb hr (fun t ht hW => ⟨⟨(fo, dy, 1, f_172, f_173, f_174), rfl, ⟨fal_p (show mu.toInt = 0 from by omega) (by omega) (by rw [hk9]; decide) (by rw [show spW pa x2 = z_169 from ez_169.symm, ← hpk_r_170]; exact ⟨(fun _ => (show ¬ (1 : Int32).toInt = 0 from by decide)), (fun q9 => absurd (by omega) q9)⟩), hst⟩, by rw [ht]; exact hP.sub [0, 1, 2, 3, 4, 5, 6, 7, 8, 9, 10, 11, 12] rfl, hD.sub [0, 1, 2, 3, 4, 5, 6, 7, 8, 9, 10, 11, 12] (by decide +kernel) rfl⟩, hS.F ht⟩) hS.2.2 dX3_fall_296
    · rw [fa_le] at c_3
      exact W.vret hx hb hr (fun t ht hW => ⟨⟨(fo, dy, mu, g0, g1, g4), rfl, ⟨fal_ret (by first | exact Or.inl (show ¬ mu.toInt = 0 from by omega) | exact Or.inr (by omega)), hst⟩, by rw [ht]; exact hP.sub [0, 1, 2, 3, 4, 5, 6, 7, 8, 9, 10, 11, 12] rfl, hD.sub [0, 1, 2, 3, 4, 5, 6, 7, 8, 9, 10, 11, 12] (by decide +kernel) rfl⟩, hS.F ht⟩) hS.2.2 dX3_fall_20
theorem cF_all (l : Launch) (D : va_G) (T : Nat → ClassId) (ad sa av : Nat → Nat) (ta : Nat) : ∀ d : Nat, cF_fall l D T ad sa av ta d
  | 0 => by
    intro sz h0 on dy mu pa fo wo la cl p0 p1 p4 n l9 n0 c1 c2 c3 c4 c5 c6 c7 f1 f2 f3 f4 f5 g0 g1 g4 x1 x2 x3 hx hd hpa hok hxn hmm hlq hdep
    exfalso
    omega
  | d + 1 => by
    intro sz h0 on dy mu pa fo wo la cl p0 p1 p4 n l9 n0 c1 c2 c3 c4 c5 c6 c7 f1 f2 f3 f4 f5 g0 g1 g4 x1 x2 x3 hx hd hpa hok hxn hmm hlq hdep
    exact s_X3_fall l D T ad sa av ta sz h0 on dy mu pa fo wo la cl p0 p1 p4 n l9 n0 c1 c2 c3 c4 c5 c6 c7 f1 f2 f3 f4 f5 g0 g1 g4 d x1 x2 x3 hx hd hpa hok hxn hmm hlq (by omega) (cF_all l D T ad sa av ta d)
end
section
theorem dX3_gather_0 : decode cX3_gather 0 = .ok (.iconst 0, 1) := by decide +kernel
theorem dX3_gather_1 : decode cX3_gather 1 = .ok (.istore 4, 2) := by decide +kernel
theorem dX3_gather_10 : decode cX3_gather 10 = .ok (.aload_n 0, 1) := by decide +kernel
theorem dX3_gather_11 : decode cX3_gather 11 = .ok (.getfield 9, 3) := by decide +kernel
theorem dX3_gather_14 : decode cX3_gather 14 = .ok (.iload 4, 2) := by decide +kernel
theorem dX3_gather_16 : decode cX3_gather 16 = .ok (.lconst 0, 1) := by decide +kernel
theorem dX3_gather_17 : decode cX3_gather 17 = .ok (.lastore, 1) := by decide +kernel
theorem dX3_gather_18 : decode cX3_gather 18 = .ok (.iinc 4 1, 3) := by decide +kernel
theorem dX3_gather_21 : decode cX3_gather 21 = .ok (.goto (-18), 3) := by decide +kernel
theorem dX3_gather_24 : decode cX3_gather 24 = .ok (.aload_n 0, 1) := by decide +kernel
theorem dX3_gather_25 : decode cX3_gather 25 = .ok (.iconst 0, 1) := by decide +kernel
theorem dX3_gather_26 : decode cX3_gather 26 = .ok (.putfield 15, 3) := by decide +kernel
theorem dX3_gather_29 : decode cX3_gather 29 = .ok (.aload_n 0, 1) := by decide +kernel
theorem dX3_gather_3 : decode cX3_gather 3 = .ok (.iload 4, 2) := by decide +kernel
theorem dX3_gather_30 : decode cX3_gather 30 = .ok (.iload_n 3, 1) := by decide +kernel
theorem dX3_gather_31 : decode cX3_gather 31 = .ok (.putfield 23, 3) := by decide +kernel
theorem dX3_gather_34 : decode cX3_gather 34 = .ok (.aload_n 0, 1) := by decide +kernel
theorem dX3_gather_35 : decode cX3_gather 35 = .ok (.aload_n 0, 1) := by decide +kernel
theorem dX3_gather_36 : decode cX3_gather 36 = .ok (.getfield 30, 3) := by decide +kernel
theorem dX3_gather_39 : decode cX3_gather 39 = .ok (.getfield 38, 3) := by decide +kernel
theorem dX3_gather_42 : decode cX3_gather 42 = .ok (.iload_n 1, 1) := by decide +kernel
theorem dX3_gather_43 : decode cX3_gather 43 = .ok (.iaload, 1) := by decide +kernel
theorem dX3_gather_44 : decode cX3_gather 44 = .ok (.sipush 2000, 3) := by decide +kernel
theorem dX3_gather_47 : decode cX3_gather 47 = .ok (.if_icmp .le 7, 3) := by decide +kernel
theorem dX3_gather_5 : decode cX3_gather 5 = .ok (.bipush 7, 2) := by decide +kernel
theorem dX3_gather_50 : decode cX3_gather 50 = .ok (.iconst 1, 1) := by decide +kernel
theorem dX3_gather_51 : decode cX3_gather 51 = .ok (.goto 4, 3) := by decide +kernel
theorem dX3_gather_54 : decode cX3_gather 54 = .ok (.iconst 0, 1) := by decide +kernel
theorem dX3_gather_55 : decode cX3_gather 55 = .ok (.putfield 19, 3) := by decide +kernel
theorem dX3_gather_58 : decode cX3_gather 58 = .ok (.aload_n 0, 1) := by decide +kernel
theorem dX3_gather_59 : decode cX3_gather 59 = .ok (.iload_n 1, 1) := by decide +kernel
theorem dX3_gather_60 : decode cX3_gather 60 = .ok (.iload_n 2, 1) := by decide +kernel
theorem dX3_gather_61 : decode cX3_gather 61 = .ok (.lconst 1, 1) := by decide +kernel
theorem dX3_gather_62 : decode cX3_gather 62 = .ok (.invokevirtual 44, 3) := by decide +kernel
theorem dX3_gather_65 : decode cX3_gather 65 = .ok (.return_, 1) := by decide +kernel
theorem dX3_gather_7 : decode cX3_gather 7 = .ok (.if_icmp .ge 17, 3) := by decide +kernel
set_option maxRecDepth 40000 in
theorem ggX3_gather_X3_fall_0 : GoodIn wsX3_gather [.code yX3_fall cX3_fall 8 none] := goodIn_r _ [11] rfl (by decide +kernel)
set_option maxRecDepth 40000 in
theorem ggX3_gather_X3_fall_1 : GoodIn wsX3_gather wsX3_fall_r1 := goodIn_r _ [6, 4, 12, 13, 14, 15, 16, 17, 3, 18, 19, 20, 21, 22, 23, 24, 25, 26, 27, 28, 29, 30, 31, 32] rfl (by decide +kernel)
set_option maxRecDepth 40000 in
theorem ggX3_gather_X3_fall_2 : GoodIn wsX3_gather wsX3_fall_r2 := goodIn_r _ [33, 34, 35, 10, 36, 2, 1, 37, 38, 39, 40, 41, 42, 43, 44, 45, 46, 47, 48, 49, 50, 51, 52, 53] rfl (by decide +kernel)
set_option maxRecDepth 40000 in
theorem ggX3_gather_X3_fall_3 : GoodIn wsX3_gather wsX3_fall_r3 := goodIn_r _ [54, 55, 56, 57, 58, 59, 60, 61, 7, 8, 9, 62, 63, 64, 65, 66, 67, 68, 69, 70, 71, 72, 73, 74] rfl (by decide +kernel)
set_option maxRecDepth 40000 in
theorem ggX3_gather_X3_fall_4 : GoodIn wsX3_gather wsX3_fall_r4 := goodIn_r _ [75, 76, 77, 78, 79, 80, 81, 82, 83, 84, 85, 86, 87, 88, 89, 90, 91, 92, 93, 94, 95, 96, 97, 98] rfl (by decide +kernel)
set_option maxRecDepth 40000 in
theorem ggX3_gather_X3_fall_5 : GoodIn wsX3_gather wsX3_fall_r5 := goodIn_r _ [99, 100, 101, 102, 103, 104, 105, 106, 107, 108, 109, 110, 111, 112, 113, 114, 115, 116, 117, 118, 119, 120, 121, 122] rfl (by decide +kernel)
set_option maxRecDepth 40000 in
theorem ggX3_gather_X3_fall_6 : GoodIn wsX3_gather wsX3_fall_r6 := goodIn_r _ [123, 124, 125, 126, 127, 128, 129, 130, 131, 132, 133, 134, 135, 136, 137, 138, 139, 140, 141, 142, 143, 144, 145, 146] rfl (by decide +kernel)
set_option maxRecDepth 40000 in
theorem ggX3_gather_X3_fall_7 : GoodIn wsX3_gather wsX3_fall_r7 := goodIn_r _ [147, 148, 149, 150, 151, 152, 153, 154] rfl (by decide +kernel)
set_option maxRecDepth 40000 in
theorem ggX3_gather_X3_fall_8 : GoodIn wsX3_gather wsX30 := goodIn_r _ [155, 156, 157, 158, 159, 160, 161] rfl (by decide +kernel)
set_option maxRecDepth 40000 in
theorem ggX3_gather_X3_fall_9 : GoodIn wsX3_gather wsX20 := goodIn_r _ [162, 163, 164, 165, 166, 167, 168, 169] rfl (by decide +kernel)
set_option maxRecDepth 40000 in
theorem ggX3_gather_X3_fall_10 : GoodIn wsX3_gather wsX80 := goodIn_r _ [170, 171, 172, 173, 174, 175, 176] rfl (by decide +kernel)
set_option maxRecDepth 40000 in
theorem ggX3_gather_X3_fall_11 : GoodIn wsX3_gather wsX110 := goodIn_r _ [177, 178, 179, 180, 181, 182] rfl (by decide +kernel)
set_option maxRecDepth 40000 in
theorem ggX3_gather_X3_fall : GoodIn wsX3_gather wsX3_fall := (goodIn_app ggX3_gather_X3_fall_0 (goodIn_app (goodIn_app (goodIn_app (goodIn_app (goodIn_app ggX3_gather_X3_fall_1 (goodIn_app ggX3_gather_X3_fall_2 (goodIn_app ggX3_gather_X3_fall_3 (goodIn_app ggX3_gather_X3_fall_4 (goodIn_app ggX3_gather_X3_fall_5 (goodIn_app ggX3_gather_X3_fall_6 ggX3_gather_X3_fall_7)))))) ggX3_gather_X3_fall_8) ggX3_gather_X3_fall_9) ggX3_gather_X3_fall_10) ggX3_gather_X3_fall_11))
set_option maxRecDepth 20000 in
theorem gX3_gather_X3_fall : GoodIn wsX3_gather (wsV RX3 44 RX3 yX3_fall wsX3_fall) := goodIn_app (goodIn_r _ [7, 8, 9, 10] rfl (by decide +kernel)) ggX3_gather_X3_fall
set_option maxRecDepth 20000 in
theorem in_X3_gather_X2 : ∀ w ∈ wsX20, w ∈ wsX3_gather := sub_r [162, 163, 164, 165, 166, 167, 168, 169] rfl
set_option maxRecDepth 20000 in
theorem in_X3_gather_X3 : ∀ w ∈ wsX30, w ∈ wsX3_gather := sub_r [155, 156, 157, 158, 159, 160, 161] rfl
set_option maxHeartbeats 4000000 in
set_option maxRecDepth 100000 in
theorem c_X3_gather (l : Launch) (D : va_G) (T : Nat → ClassId) (ad sa av : Nat → Nat) (ta : Nat) (sz : Nat) (h0 : Nat) (on : Nat) (dy : Int32) (mu : Int32) (pa : Int32) (fo : Nat → Int64) (wo : Nat) (la : Nat) (cl : Nat) (p0 : Nat) (p1 : Nat) (p4 : Nat) (n : Int32) (l9 : Nat → Int32) (n0 : Int32) (c1 : Nat) (c2 : Nat) (c3 : Nat) (c4 : Nat) (c5 : Nat) (c6 : Nat) (c7 : Nat) (f1 : Nat → Int32) (f2 : Nat → Int32) (f3 : Nat → Int32) (f4 : Nat → Int32) (f5 : Nat → Int32) (g0 : Nat → Int64) (g1 : Nat → Int64) (g4 : Nat → Int32) (f6 : Nat → Int32) (x1 : Int32) (x2 : Int32) (x3 : Int32) (hx : 0 ≤ x1.toInt ∧ x1.toInt < 24) (hd : 0 ≤ x2.toInt ∧ x2.toInt ≤ 6) (hpa : 0 ≤ x3.toInt ∧ x3.toInt ≤ 63) (hok : okC f1 f3 f4 f5) (hxn : x1.toInt < n0.toInt) (hmm : memW (VALW l9 f1 f2 f3 f4 f5) n0 n g0 g1 g4) (hlq : (1 ≤ (l9 4).toInt ∧ (l9 4).toInt ≤ 9) ∧ 1 ≤ (l9 6).toInt ∧ (l9 6).toInt ≤ 9) : Met l yX3_gather wsX3_gather ({ frames := 124, cells := 0, slots := 0, locals := 3963 }) (pWk [.ref h0, .int x1, .int x2, .int x3] D T [(h0, .inr (2, [.ref la, .ref cl, .ref wo, .ref on, .int dy, .int mu, .int pa])), (on, .inl (T 1, 7, .inr (.inl fo))), (wo, .inr (8, [.ref la, .ref cl, .ref p0, .ref p1, .ref p4, .int n])), (la, .inr (5, [.int (l9 0), .int (l9 1), .int (l9 2), .int (l9 3), .int (l9 4), .int (l9 5), .int (l9 6)])), (cl, .inr (1, [.int n0, .ref c1, .ref c2, .ref c3, .ref c4, .ref c5, .ref c6, .ref c7])), (c1, .inl (T 0, 24, .inl f1)), (c2, .inl (T 0, 24, .inl f2)), (c3, .inl (T 0, 24, .inl f3)), (c4, .inl (T 0, 24, .inl f4)), (c5, .inl (T 0, 24, .inl f5)), (p0, .inl (T 1, 676, .inr (.inl g0))), (p1, .inl (T 1, 676, .inr (.inl g1))), (p4, .inl (T 0, 672, .inl g4)), (c6, .inl (T 0, 24, .inl f6))] sz ad sa av ta) (va_Qv (fun (u : (Nat → Int64) × Int32 × Int32 × (Nat → Int64) × (Nat → Int64) × (Nat → Int32)) => dusP l9 f1 f2 f3 f4 f5 f6 (VALW l9 f1 f2 f3 f4 f5) x3 x1 x2 ((u.1, u.2.1, u.2.2.1) : duS) ∧ stW (VALW l9 f1 f2 f3 f4 f5) n0 n (fun _ => True) g0 g1 g4 u.2.2.2.1 u.2.2.2.2.1 u.2.2.2.2.2) (bW D (va_A [(h0, .inr (2, [.ref la, .ref cl, .ref wo, .ref on, .int dy, .int mu, .int pa])), (on, .inl (T 1, 7, .inr (.inl fo))), (wo, .inr (8, [.ref la, .ref cl, .ref p0, .ref p1, .ref p4, .int n])), (la, .inr (5, [.int (l9 0), .int (l9 1), .int (l9 2), .int (l9 3), .int (l9 4), .int (l9 5), .int (l9 6)])), (cl, .inr (1, [.int n0, .ref c1, .ref c2, .ref c3, .ref c4, .ref c5, .ref c6, .ref c7])), (c1, .inl (T 0, 24, .inl f1)), (c2, .inl (T 0, 24, .inl f2)), (c3, .inl (T 0, 24, .inl f3)), (c4, .inl (T 0, 24, .inl f4)), (c5, .inl (T 0, 24, .inl f5)), (p0, .inl (T 1, 676, .inr (.inl g0))), (p1, .inl (T 1, 676, .inr (.inl g1))), (p4, .inl (T 0, 672, .inl g4)), (c6, .inl (T 0, 24, .inl f6))] sz) (fun (u : (Nat → Int64) × Int32 × Int32 × (Nat → Int64) × (Nat → Int64) × (Nat → Int32)) => [(h0, .inr (2, [.ref la, .ref cl, .ref wo, .ref on, .int u.2.1, .int u.2.2.1, .int x3])), (on, .inl (T 1, 7, .inr (.inl u.1))), (wo, .inr (8, [.ref la, .ref cl, .ref p0, .ref p1, .ref p4, .int n])), (la, .inr (5, [.int (l9 0), .int (l9 1), .int (l9 2), .int (l9 3), .int (l9 4), .int (l9 5), .int (l9 6)])), (cl, .inr (1, [.int n0, .ref c1, .ref c2, .ref c3, .ref c4, .ref c5, .ref c6, .ref c7])), (c1, .inl (T 0, 24, .inl f1)), (c2, .inl (T 0, 24, .inl f2)), (c3, .inl (T 0, 24, .inl f3)), (c4, .inl (T 0, 24, .inl f4)), (c5, .inl (T 0, 24, .inl f5)), (p0, .inl (T 1, 676, .inr (.inl u.2.2.2.1))), (p1, .inl (T 1, 676, .inr (.inl u.2.2.2.2.1))), (p4, .inl (T 0, 672, .inl u.2.2.2.2.2)), (c6, .inl (T 0, 24, .inl f6))])) (va_A [(h0, .inr (2, [.ref la, .ref cl, .ref wo, .ref on, .int dy, .int mu, .int pa])), (on, .inl (T 1, 7, .inr (.inl fo))), (wo, .inr (8, [.ref la, .ref cl, .ref p0, .ref p1, .ref p4, .int n])), (la, .inr (5, [.int (l9 0), .int (l9 1), .int (l9 2), .int (l9 3), .int (l9 4), .int (l9 5), .int (l9 6)])), (cl, .inr (1, [.int n0, .ref c1, .ref c2, .ref c3, .ref c4, .ref c5, .ref c6, .ref c7])), (c1, .inl (T 0, 24, .inl f1)), (c2, .inl (T 0, 24, .inl f2)), (c3, .inl (T 0, 24, .inl f3)), (c4, .inl (T 0, 24, .inl f4)), (c5, .inl (T 0, 24, .inl f5)), (p0, .inl (T 1, 676, .inr (.inl g0))), (p1, .inl (T 1, 676, .inr (.inl g1))), (p4, .inl (T 0, 672, .inl g4)), (c6, .inl (T 0, 24, .inl f6))] sz)) 0 0 (va_A [(h0, .inr (2, [.ref la, .ref cl, .ref wo, .ref on, .int dy, .int mu, .int pa])), (on, .inl (T 1, 7, .inr (.inl fo))), (wo, .inr (8, [.ref la, .ref cl, .ref p0, .ref p1, .ref p4, .int n])), (la, .inr (5, [.int (l9 0), .int (l9 1), .int (l9 2), .int (l9 3), .int (l9 4), .int (l9 5), .int (l9 6)])), (cl, .inr (1, [.int n0, .ref c1, .ref c2, .ref c3, .ref c4, .ref c5, .ref c6, .ref c7])), (c1, .inl (T 0, 24, .inl f1)), (c2, .inl (T 0, 24, .inl f2)), (c3, .inl (T 0, 24, .inl f3)), (c4, .inl (T 0, 24, .inl f4)), (c5, .inl (T 0, 24, .inl f5)), (p0, .inl (T 1, 676, .inr (.inl g0))), (p1, .inl (T 1, 676, .inr (.inl g1))), (p4, .inl (T 0, 672, .inl g4)), (c6, .inl (T 0, 24, .inl f6))] sz) := by
  refine Met.ofW (cc := cX3_gather) (maxL := 5) (ret := none) (by decide +kernel) rfl ?_
  intro p e s m args below meth c s₁ B hml hv
  obtain ⟨rfl, hsz, hP, hE, hD0, hV⟩ := hv
  have hx := B.exec
  have hb := B.bytes
  have hr := B.returns
  have hts := atoms_spec (ws := wsX3_gather) B.pre
  have hown : s.vm.findClass RX3 = some m.cls := findClass_of_methodNamed B.named
  have hlocks := B.notSynchronized
  subst hsz
  have hD := hD0.self (sz := s.heap.size)
  generalize hAe : va_A [(h0, .inr (2, [.ref la, .ref cl, .ref wo, .ref on, .int dy, .int mu, .int pa])), (on, .inl (T 1, 7, .inr (.inl fo))), (wo, .inr (8, [.ref la, .ref cl, .ref p0, .ref p1, .ref p4, .int n])), (la, .inr (5, [.int (l9 0), .int (l9 1), .int (l9 2), .int (l9 3), .int (l9 4), .int (l9 5), .int (l9 6)])), (cl, .inr (1, [.int n0, .ref c1, .ref c2, .ref c3, .ref c4, .ref c5, .ref c6, .ref c7])), (c1, .inl (T 0, 24, .inl f1)), (c2, .inl (T 0, 24, .inl f2)), (c3, .inl (T 0, 24, .inl f3)), (c4, .inl (T 0, 24, .inl f4)), (c5, .inl (T 0, 24, .inl f5)), (p0, .inl (T 1, 676, .inr (.inl g0))), (p1, .inl (T 1, 676, .inr (.inl g1))), (p4, .inl (T 0, 672, .inl g4)), (c6, .inl (T 0, 24, .inl f6))] s.heap.size = A at hD hV ⊢
  have hA : ∀ q : Nat, s.heap.size ≤ q → A q := fun q h => by rw [← hAe]; exact Or.inr h
  have hS : va_S A s.heap s.heap [] := va_S.rf
  have hP : va_P D vwCl [(h0, .inr (2, [.ref la, .ref cl, .ref wo, .ref on, .int dy, .int mu, .int pa])), (on, .inl (T 1, 7, .inr (.inl fo))), (wo, .inr (8, [.ref la, .ref cl, .ref p0, .ref p1, .ref p4, .int n])), (la, .inr (5, [.int (l9 0), .int (l9 1), .int (l9 2), .int (l9 3), .int (l9 4), .int (l9 5), .int (l9 6)])), (cl, .inr (1, [.int n0, .ref c1, .ref c2, .ref c3, .ref c4, .ref c5, .ref c6, .ref c7])), (c1, .inl (T 0, 24, .inl f1)), (c2, .inl (T 0, 24, .inl f2)), (c3, .inl (T 0, 24, .inl f3)), (c4, .inl (T 0, 24, .inl f4)), (c5, .inl (T 0, 24, .inl f5)), (p0, .inl (T 1, 676, .inr (.inl g0))), (p1, .inl (T 1, 676, .inr (.inl g1))), (p4, .inl (T 0, 672, .inl g4)), (c6, .inl (T 0, 24, .inl f6))] s.heap := hP
  have hl := lv_entry ([.ref h0, .int x1, .int x2, .int x3]) (n := 5) (Nat.le_of_ble_eq_true rfl)
  rw [lg_entry_eq]
  generalize (lg_sl ([.ref h0, .int x1, .int x2, .int x3]) ++ List.replicate (5 - (lg_sl ([.ref h0, .int x1, .int x2, .int x3])).length) Slot.unset).toArray = ls at hl ⊢
  have hl : lv_has ls 5 [(0, .ref h0), (1, .int x1), (2, .int x2), (3, .int x3)] := hl
  clear hD0
  have hst : stW (VALW l9 f1 f2 f3 f4 f5) n0 n (fun _ => True) g0 g1 g4 g0 g1 g4 := stW_rf hmm
  refine lv_iconst (v := 0) hx hb dX3_gather_0 (by decide +kernel) ?_
  refine lv_istore (lv' := [(4, .int 0), (0, .ref h0), (1, .int x1), (2, .int x2), (3, .int x3)]) hx hb dX3_gather_1 hl (by decide +kernel) rfl (fun ls hl => ?_)
  refine lv_iload hx hb dX3_gather_3 (lv_at hl 0 rfl) ?_
  refine lv_bipush (v := 7) hx hb dX3_gather_5 (by decide +kernel) ?_
  refine lv_icmp_ge (tgt := 24) hx hb dX3_gather_7 (by decide +kernel) (fun c9 => absurd c9 (by decide +kernel)) (fun _ => ?_)
  refine lv_aload_n hx hb dX3_gather_10 rfl (lv_at hl 1 rfl) ?_
  refine va_get (D := D) (ci := 2) (v := .ref on) (C := RX3) (T := TX3) (N := 7) hx hb hts in_X3_gather_X3 hown hE.1 hP 0 rfl rfl 3 (by decide +kernel) (hts (.fieldLink RX3 9 "ClauseBook$Falling" "on" "[J") (List.mem_of_getElem? (i := 1) rfl)) (fun _ h9 => h9) rfl dX3_gather_11 ?_
  refine lv_iload hx hb dX3_gather_14 (lv_at hl 0 rfl) ?_
  refine lv_lconst (v := 0) hx hb dX3_gather_16 (by decide +kernel) ?_
  refine va_last hx hb hE.1 hP hD hS 1 1 rfl rfl (by unfold vp_in; decide) dX3_gather_17 (fun H locs hP hD hS => ?_)
  obtain ⟨hP, hD⟩ := wPD [(h0, .inr (2, [.ref la, .ref cl, .ref wo, .ref on, .int dy, .int mu, .int pa])), (on, .inl (T 1, 7, .inr (.inl (vp_updL fo 0 0)))), (wo, .inr (8, [.ref la, .ref cl, .ref p0, .ref p1, .ref p4, .int n])), (la, .inr (5, [.int (l9 0), .int (l9 1), .int (l9 2), .int (l9 3), .int (l9 4), .int (l9 5), .int (l9 6)])), (cl, .inr (1, [.int n0, .ref c1, .ref c2, .ref c3, .ref c4, .ref c5, .ref c6, .ref c7])), (c1, .inl (T 0, 24, .inl f1)), (c2, .inl (T 0, 24, .inl f2)), (c3, .inl (T 0, 24, .inl f3)), (c4, .inl (T 0, 24, .inl f4)), (c5, .inl (T 0, 24, .inl f5)), (p0, .inl (T 1, 676, .inr (.inl g0))), (p1, .inl (T 1, 676, .inr (.inl g1))), (p4, .inl (T 0, 672, .inl g4)), (c6, .inl (T 0, 24, .inl f6))] hP hD rfl
  refine lv_iinc (v := 1) (lv' := [(4, .int 1), (0, .ref h0), (1, .int x1), (2, .int x2), (3, .int x3)]) hx hb dX3_gather_18 hl (k := 0) rfl (by decide +kernel) (by decide +kernel) rfl (fun ls hl => ?_)
  refine lv_goto (tgt := 3) hx hb dX3_gather_21 (by decide +kernel) ?_
  refine lv_iload hx hb dX3_gather_3 (lv_at hl 0 rfl) ?_
  refine lv_bipush (v := 7) hx hb dX3_gather_5 (by decide +kernel) ?_
  refine lv_icmp_ge (tgt := 24) hx hb dX3_gather_7 (by decide +kernel) (fun c9 => absurd c9 (by decide +kernel)) (fun _ => ?_)
  refine lv_aload_n hx hb dX3_gather_10 rfl (lv_at hl 1 rfl) ?_
  refine va_get (D := D) (ci := 2) (v := .ref on) (C := RX3) (T := TX3) (N := 7) hx hb hts in_X3_gather_X3 hown hE.1 hP 0 rfl rfl 3 (by decide +kernel) (hts (.fieldLink RX3 9 "ClauseBook$Falling" "on" "[J") (List.mem_of_getElem? (i := 1) rfl)) (fun _ h9 => h9) rfl dX3_gather_11 ?_
  refine lv_iload hx hb dX3_gather_14 (lv_at hl 0 rfl) ?_
  refine lv_lconst (v := 0) hx hb dX3_gather_16 (by decide +kernel) ?_
  refine va_last hx hb hE.1 hP hD hS 1 1 rfl rfl (by unfold vp_in; decide) dX3_gather_17 (fun H locs hP hD hS => ?_)
  obtain ⟨hP, hD⟩ := wPD [(h0, .inr (2, [.ref la, .ref cl, .ref wo, .ref on, .int dy, .int mu, .int pa])), (on, .inl (T 1, 7, .inr (.inl (vp_updL (vp_updL fo 0 0) 1 0)))), (wo, .inr (8, [.ref la, .ref cl, .ref p0, .ref p1, .ref p4, .int n])), (la, .inr (5, [.int (l9 0), .int (l9 1), .int (l9 2), .int (l9 3), .int (l9 4), .int (l9 5), .int (l9 6)])), (cl, .inr (1, [.int n0, .ref c1, .ref c2, .ref c3, .ref c4, .ref c5, .ref c6, .ref c7])), (c1, .inl (T 0, 24, .inl f1)), (c2, .inl (T 0, 24, .inl f2)), (c3, .inl (T 0, 24, .inl f3)), (c4, .inl (T 0, 24, .inl f4)), (c5, .inl (T 0, 24, .inl f5)), (p0, .inl (T 1, 676, .inr (.inl g0))), (p1, .inl (T 1, 676, .inr (.inl g1))), (p4, .inl (T 0, 672, .inl g4)), (c6, .inl (T 0, 24, .inl f6))] hP hD rfl
  refine lv_iinc (v := 2) (lv' := [(4, .int 2), (0, .ref h0), (1, .int x1), (2, .int x2), (3, .int x3)]) hx hb dX3_gather_18 hl (k := 0) rfl (by decide +kernel) (by decide +kernel) rfl (fun ls hl => ?_)
  refine lv_goto (tgt := 3) hx hb dX3_gather_21 (by decide +kernel) ?_
  refine lv_iload hx hb dX3_gather_3 (lv_at hl 0 rfl) ?_
  refine lv_bipush (v := 7) hx hb dX3_gather_5 (by decide +kernel) ?_
  refine lv_icmp_ge (tgt := 24) hx hb dX3_gather_7 (by decide +kernel) (fun c9 => absurd c9 (by decide +kernel)) (fun _ => ?_)
  refine lv_aload_n hx hb dX3_gather_10 rfl (lv_at hl 1 rfl) ?_
  refine va_get (D := D) (ci := 2) (v := .ref on) (C := RX3) (T := TX3) (N := 7) hx hb hts in_X3_gather_X3 hown hE.1 hP 0 rfl rfl 3 (by decide +kernel) (hts (.fieldLink RX3 9 "ClauseBook$Falling" "on" "[J") (List.mem_of_getElem? (i := 1) rfl)) (fun _ h9 => h9) rfl dX3_gather_11 ?_
  refine lv_iload hx hb dX3_gather_14 (lv_at hl 0 rfl) ?_
  refine lv_lconst (v := 0) hx hb dX3_gather_16 (by decide +kernel) ?_
  refine va_last hx hb hE.1 hP hD hS 1 1 rfl rfl (by unfold vp_in; decide) dX3_gather_17 (fun H locs hP hD hS => ?_)
  obtain ⟨hP, hD⟩ := wPD [(h0, .inr (2, [.ref la, .ref cl, .ref wo, .ref on, .int dy, .int mu, .int pa])), (on, .inl (T 1, 7, .inr (.inl (vp_updL (vp_updL (vp_updL fo 0 0) 1 0) 2 0)))), (wo, .inr (8, [.ref la, .ref cl, .ref p0, .ref p1, .ref p4, .int n])), (la, .inr (5, [.int (l9 0), .int (l9 1), .int (l9 2), .int (l9 3), .int (l9 4), .int (l9 5), .int (l9 6)])), (cl, .inr (1, [.int n0, .ref c1, .ref c2, .ref c3, .ref c4, .ref c5, .ref c6, .ref c7])), (c1, .inl (T 0, 24, .inl f1)), (c2, .inl (T 0, 24, .inl f2)), (c3, .inl (T 0, 24, .inl f3)), (c4, .inl (T 0, 24, .inl f4)), (c5, .inl (T 0, 24, .inl f5)), (p0, .inl (T 1, 676, .inr (.inl g0))), (p1, .inl (T 1, 676, .inr (.inl g1))), (p4, .inl (T 0, 672, .inl g4)), (c6, .inl (T 0, 24, .inl f6))] hP hD rfl
  refine lv_iinc (v := 3) (lv' := [(4, .int 3), (0, .ref h0), (1, .int x1), (2, .int x2), (3, .int x3)]) hx hb dX3_gather_18 hl (k := 0) rfl (by decide +kernel) (by decide +kernel) rfl (fun ls hl => ?_)
  refine lv_goto (tgt := 3) hx hb dX3_gather_21 (by decide +kernel) ?_
  refine lv_iload hx hb dX3_gather_3 (lv_at hl 0 rfl) ?_
  refine lv_bipush (v := 7) hx hb dX3_gather_5 (by decide +kernel) ?_
  refine lv_icmp_ge (tgt := 24) hx hb dX3_gather_7 (by decide +kernel) (fun c9 => absurd c9 (by decide +kernel)) (fun _ => ?_)
  refine lv_aload_n hx hb dX3_gather_10 rfl (lv_at hl 1 rfl) ?_
  refine va_get (D := D) (ci := 2) (v := .ref on) (C := RX3) (T := TX3) (N := 7) hx hb hts in_X3_gather_X3 hown hE.1 hP 0 rfl rfl 3 (by decide +kernel) (hts (.fieldLink RX3 9 "ClauseBook$Falling" "on" "[J") (List.mem_of_getElem? (i := 1) rfl)) (fun _ h9 => h9) rfl dX3_gather_11 ?_
  refine lv_iload hx hb dX3_gather_14 (lv_at hl 0 rfl) ?_
  refine lv_lconst (v := 0) hx hb dX3_gather_16 (by decide +kernel) ?_
  refine va_last hx hb hE.1 hP hD hS 1 1 rfl rfl (by unfold vp_in; decide) dX3_gather_17 (fun H locs hP hD hS => ?_)
  obtain ⟨hP, hD⟩ := wPD [(h0, .inr (2, [.ref la, .ref cl, .ref wo, .ref on, .int dy, .int mu, .int pa])), (on, .inl (T 1, 7, .inr (.inl (vp_updL (vp_updL (vp_updL (vp_updL fo 0 0) 1 0) 2 0) 3 0)))), (wo, .inr (8, [.ref la, .ref cl, .ref p0, .ref p1, .ref p4, .int n])), (la, .inr (5, [.int (l9 0), .int (l9 1), .int (l9 2), .int (l9 3), .int (l9 4), .int (l9 5), .int (l9 6)])), (cl, .inr (1, [.int n0, .ref c1, .ref c2, .ref c3, .ref c4, .ref c5, .ref c6, .ref c7])), (c1, .inl (T 0, 24, .inl f1)), (c2, .inl (T 0, 24, .inl f2)), (c3, .inl (T 0, 24, .inl f3)), (c4, .inl (T 0, 24, .inl f4)), (c5, .inl (T 0, 24, .inl f5)), (p0, .inl (T 1, 676, .inr (.inl g0))), (p1, .inl (T 1, 676, .inr (.inl g1))), (p4, .inl (T 0, 672, .inl g4)), (c6, .inl (T 0, 24, .inl f6))] hP hD rfl
  refine lv_iinc (v := 4) (lv' := [(4, .int 4), (0, .ref h0), (1, .int x1), (2, .int x2), (3, .int x3)]) hx hb dX3_gather_18 hl (k := 0) rfl (by decide +kernel) (by decide +kernel) rfl (fun ls hl => ?_)
  refine lv_goto (tgt := 3) hx hb dX3_gather_21 (by decide +kernel) ?_
  refine lv_iload hx hb dX3_gather_3 (lv_at hl 0 rfl) ?_
  refine lv_bipush (v := 7) hx hb dX3_gather_5 (by decide +kernel) ?_
  refine lv_icmp_ge (tgt := 24) hx hb dX3_gather_7 (by decide +kernel) (fun c9 => absurd c9 (by decide +kernel)) (fun _ => ?_)
  refine lv_aload_n hx hb dX3_gather_10 rfl (lv_at hl 1 rfl) ?_
  refine va_get (D := D) (ci := 2) (v := .ref on) (C := RX3) (T := TX3) (N := 7) hx hb hts in_X3_gather_X3 hown hE.1 hP 0 rfl rfl 3 (by decide +kernel) (hts (.fieldLink RX3 9 "ClauseBook$Falling" "on" "[J") (List.mem_of_getElem? (i := 1) rfl)) (fun _ h9 => h9) rfl dX3_gather_11 ?_
  refine lv_iload hx hb dX3_gather_14 (lv_at hl 0 rfl) ?_
  refine lv_lconst (v := 0) hx hb dX3_gather_16 (by decide +kernel) ?_
  refine va_last hx hb hE.1 hP hD hS 1 1 rfl rfl (by unfold vp_in; decide) dX3_gather_17 (fun H locs hP hD hS => ?_)
  obtain ⟨hP, hD⟩ := wPD [(h0, .inr (2, [.ref la, .ref cl, .ref wo, .ref on, .int dy, .int mu, .int pa])), (on, .inl (T 1, 7, .inr (.inl (vp_updL (vp_updL (vp_updL (vp_updL (vp_updL fo 0 0) 1 0) 2 0) 3 0) 4 0)))), (wo, .inr (8, [.ref la, .ref cl, .ref p0, .ref p1, .ref p4, .int n])), (la, .inr (5, [.int (l9 0), .int (l9 1), .int (l9 2), .int (l9 3), .int (l9 4), .int (l9 5), .int (l9 6)])), (cl, .inr (1, [.int n0, .ref c1, .ref c2, .ref c3, .ref c4, .ref c5, .ref c6, .ref c7])), (c1, .inl (T 0, 24, .inl f1)), (c2, .inl (T 0, 24, .inl f2)), (c3, .inl (T 0, 24, .inl f3)), (c4, .inl (T 0, 24, .inl f4)), (c5, .inl (T 0, 24, .inl f5)), (p0, .inl (T 1, 676, .inr (.inl g0))), (p1, .inl (T 1, 676, .inr (.inl g1))), (p4, .inl (T 0, 672, .inl g4)), (c6, .inl (T 0, 24, .inl f6))] hP hD rfl
  refine lv_iinc (v := 5) (lv' := [(4, .int 5), (0, .ref h0), (1, .int x1), (2, .int x2), (3, .int x3)]) hx hb dX3_gather_18 hl (k := 0) rfl (by decide +kernel) (by decide +kernel) rfl (fun ls hl => ?_)
  refine lv_goto (tgt := 3) hx hb dX3_gather_21 (by decide +kernel) ?_
  refine lv_iload hx hb dX3_gather_3 (lv_at hl 0 rfl) ?_
  refine lv_bipush (v := 7) hx hb dX3_gather_5 (by decide +kernel) ?_
  refine lv_icmp_ge (tgt := 24) hx hb dX3_gather_7 (by decide +kernel) (fun c9 => absurd c9 (by decide +kernel)) (fun _ => ?_)
  refine lv_aload_n hx hb dX3_gather_10 rfl (lv_at hl 1 rfl) ?_
  refine va_get (D := D) (ci := 2) (v := .ref on) (C := RX3) (T := TX3) (N := 7) hx hb hts in_X3_gather_X3 hown hE.1 hP 0 rfl rfl 3 (by decide +kernel) (hts (.fieldLink RX3 9 "ClauseBook$Falling" "on" "[J") (List.mem_of_getElem? (i := 1) rfl)) (fun _ h9 => h9) rfl dX3_gather_11 ?_
  refine lv_iload hx hb dX3_gather_14 (lv_at hl 0 rfl) ?_
  refine lv_lconst (v := 0) hx hb dX3_gather_16 (by decide +kernel) ?_
  refine va_last hx hb hE.1 hP hD hS 1 1 rfl rfl (by unfold vp_in; decide) dX3_gather_17 (fun H locs hP hD hS => ?_)
  obtain ⟨hP, hD⟩ := wPD [(h0, .inr (2, [.ref la, .ref cl, .ref wo, .ref on, .int dy, .int mu, .int pa])), (on, .inl (T 1, 7, .inr (.inl (vp_updL (vp_updL (vp_updL (vp_updL (vp_updL (vp_updL fo 0 0) 1 0) 2 0) 3 0) 4 0) 5 0)))), (wo, .inr (8, [.ref la, .ref cl, .ref p0, .ref p1, .ref p4, .int n])), (la, .inr (5, [.int (l9 0), .int (l9 1), .int (l9 2), .int (l9 3), .int (l9 4), .int (l9 5), .int (l9 6)])), (cl, .inr (1, [.int n0, .ref c1, .ref c2, .ref c3, .ref c4, .ref c5, .ref c6, .ref c7])), (c1, .inl (T 0, 24, .inl f1)), (c2, .inl (T 0, 24, .inl f2)), (c3, .inl (T 0, 24, .inl f3)), (c4, .inl (T 0, 24, .inl f4)), (c5, .inl (T 0, 24, .inl f5)), (p0, .inl (T 1, 676, .inr (.inl g0))), (p1, .inl (T 1, 676, .inr (.inl g1))), (p4, .inl (T 0, 672, .inl g4)), (c6, .inl (T 0, 24, .inl f6))] hP hD rfl
  refine lv_iinc (v := 6) (lv' := [(4, .int 6), (0, .ref h0), (1, .int x1), (2, .int x2), (3, .int x3)]) hx hb dX3_gather_18 hl (k := 0) rfl (by decide +kernel) (by decide +kernel) rfl (fun ls hl => ?_)
  refine lv_goto (tgt := 3) hx hb dX3_gather_21 (by decide +kernel) ?_
  refine lv_iload hx hb dX3_gather_3 (lv_at hl 0 rfl) ?_
  refine lv_bipush (v := 7) hx hb dX3_gather_5 (by decide +kernel) ?_
  refine lv_icmp_ge (tgt := 24) hx hb dX3_gather_7 (by decide +kernel) (fun c9 => absurd c9 (by decide +kernel)) (fun _ => ?_)
  refine lv_aload_n hx hb dX3_gather_10 rfl (lv_at hl 1 rfl) ?_
  refine va_get (D := D) (ci := 2) (v := .ref on) (C := RX3) (T := TX3) (N := 7) hx hb hts in_X3_gather_X3 hown hE.1 hP 0 rfl rfl 3 (by decide +kernel) (hts (.fieldLink RX3 9 "ClauseBook$Falling" "on" "[J") (List.mem_of_getElem? (i := 1) rfl)) (fun _ h9 => h9) rfl dX3_gather_11 ?_
  refine lv_iload hx hb dX3_gather_14 (lv_at hl 0 rfl) ?_
  refine lv_lconst (v := 0) hx hb dX3_gather_16 (by decide +kernel) ?_
  refine va_last hx hb hE.1 hP hD hS 1 1 rfl rfl (by unfold vp_in; decide) dX3_gather_17 (fun H locs hP hD hS => ?_)
  obtain ⟨hP, hD⟩ := wPD [(h0, .inr (2, [.ref la, .ref cl, .ref wo, .ref on, .int dy, .int mu, .int pa])), (on, .inl (T 1, 7, .inr (.inl (vp_updL (vp_updL (vp_updL (vp_updL (vp_updL (vp_updL (vp_updL fo 0 0) 1 0) 2 0) 3 0) 4 0) 5 0) 6 0)))), (wo, .inr (8, [.ref la, .ref cl, .ref p0, .ref p1, .ref p4, .int n])), (la, .inr (5, [.int (l9 0), .int (l9 1), .int (l9 2), .int (l9 3), .int (l9 4), .int (l9 5), .int (l9 6)])), (cl, .inr (1, [.int n0, .ref c1, .ref c2, .ref c3, .ref c4, .ref c5, .ref c6, .ref c7])), (c1, .inl (T 0, 24, .inl f1)), (c2, .inl (T 0, 24, .inl f2)), (c3, .inl (T 0, 24, .inl f3)), (c4, .inl (T 0, 24, .inl f4)), (c5, .inl (T 0, 24, .inl f5)), (p0, .inl (T 1, 676, .inr (.inl g0))), (p1, .inl (T 1, 676, .inr (.inl g1))), (p4, .inl (T 0, 672, .inl g4)), (c6, .inl (T 0, 24, .inl f6))] hP hD rfl
  refine lv_iinc (v := 7) (lv' := [(4, .int 7), (0, .ref h0), (1, .int x1), (2, .int x2), (3, .int x3)]) hx hb dX3_gather_18 hl (k := 0) rfl (by decide +kernel) (by decide +kernel) rfl (fun ls hl => ?_)
  refine lv_goto (tgt := 3) hx hb dX3_gather_21 (by decide +kernel) ?_
  refine lv_iload hx hb dX3_gather_3 (lv_at hl 0 rfl) ?_
  refine lv_bipush (v := 7) hx hb dX3_gather_5 (by decide +kernel) ?_
  refine lv_icmp_ge (tgt := 24) hx hb dX3_gather_7 (by decide +kernel) (fun _ => ?_) (fun c9 => absurd c9 (by decide +kernel))
  refine lv_aload_n hx hb dX3_gather_24 rfl (lv_at hl 1 rfl) ?_
  refine lv_iconst (v := 0) hx hb dX3_gather_25 (by decide +kernel) ?_
  refine va_put (D := D) (ci := 2) (v := .int 0) (ty := .int) (C := RX3) (T := TX3) (N := 7) hx hb hts in_X3_gather_X3 tyX3 tyX3_ok nmX3 hown hE.1 hP hD hS 0 rfl rfl 4 (by decide +kernel) (hts (.fieldLink RX3 15 "ClauseBook$Falling" "days" "I") (List.mem_of_getElem? (i := 2) rfl)) (fun _ h9 => h9) rfl (by decide +kernel) rfl rfl (Nat.le_of_ble_eq_true rfl) dX3_gather_26 (fun H locs hP hD hS => ?_)
  obtain ⟨hP, hD⟩ := wPD [(h0, .inr (2, [.ref la, .ref cl, .ref wo, .ref on, .int 0, .int mu, .int pa])), (on, .inl (T 1, 7, .inr (.inl (vp_updL (vp_updL (vp_updL (vp_updL (vp_updL (vp_updL (vp_updL fo 0 0) 1 0) 2 0) 3 0) 4 0) 5 0) 6 0)))), (wo, .inr (8, [.ref la, .ref cl, .ref p0, .ref p1, .ref p4, .int n])), (la, .inr (5, [.int (l9 0), .int (l9 1), .int (l9 2), .int (l9 3), .int (l9 4), .int (l9 5), .int (l9 6)])), (cl, .inr (1, [.int n0, .ref c1, .ref c2, .ref c3, .ref c4, .ref c5, .ref c6, .ref c7])), (c1, .inl (T 0, 24, .inl f1)), (c2, .inl (T 0, 24, .inl f2)), (c3, .inl (T 0, 24, .inl f3)), (c4, .inl (T 0, 24, .inl f4)), (c5, .inl (T 0, 24, .inl f5)), (p0, .inl (T 1, 676, .inr (.inl g0))), (p1, .inl (T 1, 676, .inr (.inl g1))), (p4, .inl (T 0, 672, .inl g4)), (c6, .inl (T 0, 24, .inl f6))] hP hD rfl
  refine lv_aload_n hx hb dX3_gather_29 rfl (lv_at hl 1 rfl) ?_
  refine lv_iload_n hx hb dX3_gather_30 rfl (lv_at hl 4 rfl) ?_
  refine va_put (D := D) (ci := 2) (v := .int x3) (ty := .int) (C := RX3) (T := TX3) (N := 7) hx hb hts in_X3_gather_X3 tyX3 tyX3_ok nmX3 hown hE.1 hP hD hS 0 rfl rfl 6 (by decide +kernel) (hts (.fieldLink RX3 23 "ClauseBook$Falling" "path" "I") (List.mem_of_getElem? (i := 3) rfl)) (fun _ h9 => h9) rfl (by decide +kernel) rfl rfl (Nat.le_of_ble_eq_true rfl) dX3_gather_31 (fun H locs hP hD hS => ?_)
  obtain ⟨hP, hD⟩ := wPD [(h0, .inr (2, [.ref la, .ref cl, .ref wo, .ref on, .int 0, .int mu, .int x3])), (on, .inl (T 1, 7, .inr (.inl (vp_updL (vp_updL (vp_updL (vp_updL (vp_updL (vp_updL (vp_updL fo 0 0) 1 0) 2 0) 3 0) 4 0) 5 0) 6 0)))), (wo, .inr (8, [.ref la, .ref cl, .ref p0, .ref p1, .ref p4, .int n])), (la, .inr (5, [.int (l9 0), .int (l9 1), .int (l9 2), .int (l9 3), .int (l9 4), .int (l9 5), .int (l9 6)])), (cl, .inr (1, [.int n0, .ref c1, .ref c2, .ref c3, .ref c4, .ref c5, .ref c6, .ref c7])), (c1, .inl (T 0, 24, .inl f1)), (c2, .inl (T 0, 24, .inl f2)), (c3, .inl (T 0, 24, .inl f3)), (c4, .inl (T 0, 24, .inl f4)), (c5, .inl (T 0, 24, .inl f5)), (p0, .inl (T 1, 676, .inr (.inl g0))), (p1, .inl (T 1, 676, .inr (.inl g1))), (p4, .inl (T 0, 672, .inl g4)), (c6, .inl (T 0, 24, .inl f6))] hP hD rfl
  refine lv_aload_n hx hb dX3_gather_34 rfl (lv_at hl 1 rfl) ?_
  refine lv_aload_n hx hb dX3_gather_35 rfl (lv_at hl 1 rfl) ?_
  refine va_get (D := D) (ci := 2) (v := .ref cl) (C := RX3) (T := TX3) (N := 7) hx hb hts in_X3_gather_X3 hown hE.1 hP 0 rfl rfl 1 (by decide +kernel) (hts (.fieldLink RX3 30 "ClauseBook$Falling" "clauses" "LClauseBook$Clauses;") (List.mem_of_getElem? (i := 4) rfl)) (fun _ h9 => h9) rfl dX3_gather_36 ?_
  refine va_get (D := D) (ci := 1) (v := .ref c6) (C := RX2) (T := TX2) (N := 8) hx hb hts in_X3_gather_X2 hown hE.1 hP 4 rfl rfl 6 (by decide +kernel) (hts (.fieldLink RX3 38 "ClauseBook$Clauses" "made" "[I") (List.mem_of_getElem? (i := 5) rfl)) (fun _ h9 => h9) rfl dX3_gather_39 ?_
  refine lv_iload_n hx hb dX3_gather_42 rfl (lv_at hl 2 rfl) ?_
  refine va_iald hx hb hE.1 hP 13 0 rfl rfl (by rw [vp_in_iff]; first | omega | (subst_vars; omega)) dX3_gather_43 ?_
  refine lv_topi (fun z_1 ez_1 => ?_)
  refine lv_sipush (v := 2000) hx hb dX3_gather_44 (by decide +kernel) ?_
  refine lv_icmp_le (tgt := 54) hx hb dX3_gather_47 (by decide +kernel) (fun c_2 => ?_) (fun c_2 => ?_)
  · rw [fa_le] at c_2
    try rw [ti_2000] at c_2
    refine lv_iconst (v := 0) hx hb dX3_gather_54 (by decide +kernel) ?_
    refine va_put (D := D) (ci := 2) (v := .int 0) (ty := .boolean) (C := RX3) (T := TX3) (N := 7) hx hb hts in_X3_gather_X3 tyX3 tyX3_ok nmX3 hown hE.1 hP hD hS 0 rfl rfl 5 (by decide +kernel) (hts (.fieldLink RX3 19 "ClauseBook$Falling" "much" "Z") (List.mem_of_getElem? (i := 6) rfl)) (fun _ h9 => h9) rfl (by decide +kernel) rfl rfl (Nat.le_of_ble_eq_true rfl) dX3_gather_55 (fun H locs hP hD hS => ?_)
    obtain ⟨hP, hD⟩ := wPD [(h0, .inr (2, [.ref la, .ref cl, .ref wo, .ref on, .int 0, .int 0, .int x3])), (on, .inl (T 1, 7, .inr (.inl (vp_updL (vp_updL (vp_updL (vp_updL (vp_updL (vp_updL (vp_updL fo 0 0) 1 0) 2 0) 3 0) 4 0) 5 0) 6 0)))), (wo, .inr (8, [.ref la, .ref cl, .ref p0, .ref p1, .ref p4, .int n])), (la, .inr (5, [.int (l9 0), .int (l9 1), .int (l9 2), .int (l9 3), .int (l9 4), .int (l9 5), .int (l9 6)])), (cl, .inr (1, [.int n0, .ref c1, .ref c2, .ref c3, .ref c4, .ref c5, .ref c6, .ref c7])), (c1, .inl (T 0, 24, .inl f1)), (c2, .inl (T 0, 24, .inl f2)), (c3, .inl (T 0, 24, .inl f3)), (c4, .inl (T 0, 24, .inl f4)), (c5, .inl (T 0, 24, .inl f5)), (p0, .inl (T 1, 676, .inr (.inl g0))), (p1, .inl (T 1, 676, .inr (.inl g1))), (p4, .inl (T 0, 672, .inl g4)), (c6, .inl (T 0, 24, .inl f6))] hP hD rfl
    refine lv_aload_n hx hb dX3_gather_58 rfl (lv_at hl 1 rfl) ?_
    refine lv_iload_n hx hb dX3_gather_59 rfl (lv_at hl 2 rfl) ?_
    refine lv_iload_n hx hb dX3_gather_60 rfl (lv_at hl 3 rfl) ?_
    refine lv_lconst (v := 1) hx hb dX3_gather_61 (by decide +kernel) ?_
    have hFc := va_free (wc := [(h0, .inr (2, [.ref la, .ref cl, .ref wo, .ref on, .int 0, .int 0, .int x3])), (on, .inl (T 1, 7, .inr (.inl (vp_updL (vp_updL (vp_updL (vp_updL (vp_updL (vp_updL (vp_updL fo 0 0) 1 0) 2 0) 3 0) 4 0) 5 0) 6 0)))), (wo, .inr (8, [.ref la, .ref cl, .ref p0, .ref p1, .ref p4, .int n])), (la, .inr (5, [.int (l9 0), .int (l9 1), .int (l9 2), .int (l9 3), .int (l9 4), .int (l9 5), .int (l9 6)])), (cl, .inr (1, [.int n0, .ref c1, .ref c2, .ref c3, .ref c4, .ref c5, .ref c6, .ref c7])), (c1, .inl (T 0, 24, .inl f1)), (c2, .inl (T 0, 24, .inl f2)), (c3, .inl (T 0, 24, .inl f3)), (c4, .inl (T 0, 24, .inl f4)), (c5, .inl (T 0, 24, .inl f5)), (p0, .inl (T 1, 676, .inr (.inl g0))), (p1, .inl (T 1, 676, .inr (.inl g1))), (p4, .inl (T 0, 672, .inl g4))]) hD hS hA [0, 1, 2, 3, 4, 5, 6, 7, 8, 9, 10, 11, 12] rfl
    refine va_callv (va_runV (As := [.int x1, .int x2, .long 1]) (rest := []) ⟨hx, hb, hml, hown, hts⟩ (cF_all l D T ad sa av ta 24 _ h0 on 0 0 x3 (vp_updL (vp_updL (vp_updL (vp_updL (vp_updL (vp_updL (vp_updL fo 0 0) 1 0) 2 0) 3 0) 4 0) 5 0) 6 0) wo la cl p0 p1 p4 n l9 n0 c1 c2 c3 c4 c5 c6 c7 f1 f2 f3 f4 f5 g0 g1 g4 x1 x2 1 (by omega) (by omega) (by omega) hok (by omega) hmm hlq (by omega)) (cwV 3 hts gX3_gather_X3_fall rfl rfl rfl hv_X3_fall ⟨Nat.le_of_ble_eq_true rfl, Nat.le_of_ble_eq_true rfl⟩) (pWk_V (q := (RX3, TX3, 7)) (ci := 2) (q0 := 0) hP hE hD hV hS hFc rfl rfl [0, 1, 2, 3, 4, 5, 6, 7, 8, 9, 10, 11, 12] (by decide +kernel) rfl rfl) rfl rfl hl.1 rfl (lv_room (Nat.le_of_ble_eq_true rfl)) dX3_gather_62 ⟨Nat.le_of_ble_eq_true rfl, Nat.le_of_ble_eq_true rfl⟩) hS (fun q _ h => hFc q h) hFc (fun u_4 t H1 locs ht hvm hr_3 hB hz1 hk1 hS => ?_)
    obtain ⟨f_5, n_6, n_7, f_8, f_9, f_10⟩ := u_4
    have hsfhr_3 : stW (VALW l9 f1 f2 f3 f4 f5) n0 n (fun _ => True) g0 g1 g4 f_8 f_9 f_10 := hr_3.2
    have hst : stW (VALW l9 f1 f2 f3 f4 f5) n0 n (fun _ => True) g0 g1 g4 f_8 f_9 f_10 := hst.tr hsfhr_3 (fun _ _ => trivial)
    have hmm : memW (VALW l9 f1 f2 f3 f4 f5) n0 n f_8 f_9 f_10 := hst.1
    have hflhr_3 : falP l9 f1 f2 f3 f4 f5 (VALW l9 f1 f2 f3 f4 f5) x3 24 x1 x2 (1 : Int64) (((vp_updL (vp_updL (vp_updL (vp_updL (vp_updL (vp_updL (vp_updL fo 0 0) 1 0) 2 0) 3 0) 4 0) 5 0) 6 0), 0, 0) : duS) ((f_5, n_6, n_7) : duS) := hr_3.1
    obtain ⟨hP1, hD1⟩ := hB
    rw [ht] at hP1
    obtain ⟨hP, hD⟩ := va_repl [(h0, .inr (2, [.ref la, .ref cl, .ref wo, .ref on, .int n_6, .int n_7, .int x3])), (on, .inl (T 1, 7, .inr (.inl f_5))), (wo, .inr (8, [.ref la, .ref cl, .ref p0, .ref p1, .ref p4, .int n])), (la, .inr (5, [.int (l9 0), .int (l9 1), .int (l9 2), .int (l9 3), .int (l9 4), .int (l9 5), .int (l9 6)])), (cl, .inr (1, [.int n0, .ref c1, .ref c2, .ref c3, .ref c4, .ref c5, .ref c6, .ref c7])), (c1, .inl (T 0, 24, .inl f1)), (c2, .inl (T 0, 24, .inl f2)), (c3, .inl (T 0, 24, .inl f3)), (c4, .inl (T 0, 24, .inl f4)), (c5, .inl (T 0, 24, .inl f5)), (p0, .inl (T 1, 676, .inr (.inl f_8))), (p1, .inl (T 1, 676, .inr (.inl f_9))), (p4, .inl (T 0, 672, .inl f_10)), (c6, .inl (T 0, 24, .inl f6))] hP hD [0, 1, 2, 3, 4, 5, 6, 7, 8, 9, 10, 11, 12] [0, 1, 2, 3, 4, 5, 6, 7, 8, 9, 10, 11, 12] rfl (by decide +kernel) rfl rfl rfl hk1 hP1
    clear hP1 hD1 hFc
    generalize H1 = H at hP hS ⊢
    exact W.vret hx hb hr (fun t ht hW => ⟨⟨(f_5, n_6, n_7, f_8, f_9, f_10), rfl, ⟨dus_of (all7 (by first | rfl | simp [vp_updL]) (by first | rfl | simp [vp_updL]) (by first | rfl | simp [vp_updL]) (by first | rfl | simp [vp_updL]) (by first | rfl | simp [vp_updL]) (by first | rfl | simp [vp_updL]) (by first | rfl | simp [vp_updL])) rfl ⟨(fun h9 => by rw [← ez_1]; first | omega | exact absurd h9 (by decide +kernel)), (fun h9 => by rw [← ez_1] at h9; first | decide | omega)⟩ hflhr_3, hst⟩, by rw [ht]; exact hP.sub [0, 1, 2, 3, 4, 5, 6, 7, 8, 9, 10, 11, 12, 13] rfl, hD.sub [0, 1, 2, 3, 4, 5, 6, 7, 8, 9, 10, 11, 12, 13] (by decide +kernel) rfl⟩, hS.F ht⟩) hS.2.2 dX3_gather_65
  · rw [fa_le] at c_2
    try rw [ti_2000] at c_2
    refine lv_iconst (v := 1) hx hb dX3_gather_50 (by decide +kernel) ?_
    refine lv_goto (tgt := 55) hx hb dX3_gather_51 (by decide +kernel) ?_
    refine va_put (D := D) (ci := 2) (v := .int 1) (ty := .boolean) (C := RX3) (T := TX3) (N := 7) hx hb hts in_X3_gather_X3 tyX3 tyX3_ok nmX3 hown hE.1 hP hD hS 0 rfl rfl 5 (by decide +kernel) (hts (.fieldLink RX3 19 "ClauseBook$Falling" "much" "Z") (List.mem_of_getElem? (i := 6) rfl)) (fun _ h9 => h9) rfl (by decide +kernel) rfl rfl (Nat.le_of_ble_eq_true rfl) dX3_gather_55 (fun H locs hP hD hS => ?_)
    obtain ⟨hP, hD⟩ := wPD [(h0, .inr (2, [.ref la, .ref cl, .ref wo, .ref on, .int 0, .int 1, .int x3])), (on, .inl (T 1, 7, .inr (.inl (vp_updL (vp_updL (vp_updL (vp_updL (vp_updL (vp_updL (vp_updL fo 0 0) 1 0) 2 0) 3 0) 4 0) 5 0) 6 0)))), (wo, .inr (8, [.ref la, .ref cl, .ref p0, .ref p1, .ref p4, .int n])), (la, .inr (5, [.int (l9 0), .int (l9 1), .int (l9 2), .int (l9 3), .int (l9 4), .int (l9 5), .int (l9 6)])), (cl, .inr (1, [.int n0, .ref c1, .ref c2, .ref c3, .ref c4, .ref c5, .ref c6, .ref c7])), (c1, .inl (T 0, 24, .inl f1)), (c2, .inl (T 0, 24, .inl f2)), (c3, .inl (T 0, 24, .inl f3)), (c4, .inl (T 0, 24, .inl f4)), (c5, .inl (T 0, 24, .inl f5)), (p0, .inl (T 1, 676, .inr (.inl g0))), (p1, .inl (T 1, 676, .inr (.inl g1))), (p4, .inl (T 0, 672, .inl g4)), (c6, .inl (T 0, 24, .inl f6))] hP hD rfl
    refine lv_aload_n hx hb dX3_gather_58 rfl (lv_at hl 1 rfl) ?_
    refine lv_iload_n hx hb dX3_gather_59 rfl (lv_at hl 2 rfl) ?_
    refine lv_iload_n hx hb dX3_gather_60 rfl (lv_at hl 3 rfl) ?_
    refine lv_lconst (v := 1) hx hb dX3_gather_61 (by decide +kernel) ?_
    have hFc := va_free (wc := [(h0, .inr (2, [.ref la, .ref cl, .ref wo, .ref on, .int 0, .int 1, .int x3])), (on, .inl (T 1, 7, .inr (.inl (vp_updL (vp_updL (vp_updL (vp_updL (vp_updL (vp_updL (vp_updL fo 0 0) 1 0) 2 0) 3 0) 4 0) 5 0) 6 0)))), (wo, .inr (8, [.ref la, .ref cl, .ref p0, .ref p1, .ref p4, .int n])), (la, .inr (5, [.int (l9 0), .int (l9 1), .int (l9 2), .int (l9 3), .int (l9 4), .int (l9 5), .int (l9 6)])), (cl, .inr (1, [.int n0, .ref c1, .ref c2, .ref c3, .ref c4, .ref c5, .ref c6, .ref c7])), (c1, .inl (T 0, 24, .inl f1)), (c2, .inl (T 0, 24, .inl f2)), (c3, .inl (T 0, 24, .inl f3)), (c4, .inl (T 0, 24, .inl f4)), (c5, .inl (T 0, 24, .inl f5)), (p0, .inl (T 1, 676, .inr (.inl g0))), (p1, .inl (T 1, 676, .inr (.inl g1))), (p4, .inl (T 0, 672, .inl g4))]) hD hS hA [0, 1, 2, 3, 4, 5, 6, 7, 8, 9, 10, 11, 12] rfl
    refine va_callv (va_runV (As := [.int x1, .int x2, .long 1]) (rest := []) ⟨hx, hb, hml, hown, hts⟩ (cF_all l D T ad sa av ta 24 _ h0 on 0 1 x3 (vp_updL (vp_updL (vp_updL (vp_updL (vp_updL (vp_updL (vp_updL fo 0 0) 1 0) 2 0) 3 0) 4 0) 5 0) 6 0) wo la cl p0 p1 p4 n l9 n0 c1 c2 c3 c4 c5 c6 c7 f1 f2 f3 f4 f5 g0 g1 g4 x1 x2 1 (by omega) (by omega) (by omega) hok (by omega) hmm hlq (by omega)) (cwV 3 hts gX3_gather_X3_fall rfl rfl rfl hv_X3_fall ⟨Nat.le_of_ble_eq_true rfl, Nat.le_of_ble_eq_true rfl⟩) (pWk_V (q := (RX3, TX3, 7)) (ci := 2) (q0 := 0) hP hE hD hV hS hFc rfl rfl [0, 1, 2, 3, 4, 5, 6, 7, 8, 9, 10, 11, 12] (by decide +kernel) rfl rfl) rfl rfl hl.1 rfl (lv_room (Nat.le_of_ble_eq_true rfl)) dX3_gather_62 ⟨Nat.le_of_ble_eq_true rfl, Nat.le_of_ble_eq_true rfl⟩) hS (fun q _ h => hFc q h) hFc (fun u_12 t H1 locs ht hvm hr_11 hB hz1 hk1 hS => ?_)
    obtain ⟨f_13, n_14, n_15, f_16, f_17, f_18⟩ := u_12
    have hsfhr_11 : stW (VALW l9 f1 f2 f3 f4 f5) n0 n (fun _ => True) g0 g1 g4 f_16 f_17 f_18 := hr_11.2
    have hst : stW (VALW l9 f1 f2 f3 f4 f5) n0 n (fun _ => True) g0 g1 g4 f_16 f_17 f_18 := hst.tr hsfhr_11 (fun _ _ => trivial)
    have hmm : memW (VALW l9 f1 f2 f3 f4 f5) n0 n f_16 f_17 f_18 := hst.1
    have hflhr_11 : falP l9 f1 f2 f3 f4 f5 (VALW l9 f1 f2 f3 f4 f5) x3 24 x1 x2 (1 : Int64) (((vp_updL (vp_updL (vp_updL (vp_updL (vp_updL (vp_updL (vp_updL fo 0 0) 1 0) 2 0) 3 0) 4 0) 5 0) 6 0), 0, 1) : duS) ((f_13, n_14, n_15) : duS) := hr_11.1
    obtain ⟨hP1, hD1⟩ := hB
    rw [ht] at hP1
    obtain ⟨hP, hD⟩ := va_repl [(h0, .inr (2, [.ref la, .ref cl, .ref wo, .ref on, .int n_14, .int n_15, .int x3])), (on, .inl (T 1, 7, .inr (.inl f_13))), (wo, .inr (8, [.ref la, .ref cl, .ref p0, .ref p1, .ref p4, .int n])), (la, .inr (5, [.int (l9 0), .int (l9 1), .int (l9 2), .int (l9 3), .int (l9 4), .int (l9 5), .int (l9 6)])), (cl, .inr (1, [.int n0, .ref c1, .ref c2, .ref c3, .ref c4, .ref c5, .ref c6, .ref c7])), (c1, .inl (T 0, 24, .inl f1)), (c2, .inl (T 0, 24, .inl f2)), (c3, .inl (T 0, 24, .inl f3)), (c4, .inl (T 0, 24, .inl f4)), (c5, .inl (T 0, 24, .inl f5)), (p0, .inl (T 1, 676, .inr (.inl f_16))), (p1, .inl (T 1, 676, .inr (.inl f_17))), (p4, .inl (T 0, 672, .inl f_18)), (c6, .inl (T 0, 24, .inl f6))] hP hD [0, 1, 2, 3, 4, 5, 6, 7, 8, 9, 10, 11, 12] [0, 1, 2, 3, 4, 5, 6, 7, 8, 9, 10, 11, 12] rfl (by decide +kernel) rfl rfl rfl hk1 hP1
    clear hP1 hD1 hFc
    generalize H1 = H at hP hS ⊢
    exact W.vret hx hb hr (fun t ht hW => ⟨⟨(f_13, n_14, n_15, f_16, f_17, f_18), rfl, ⟨dus_of (all7 (by first | rfl | simp [vp_updL]) (by first | rfl | simp [vp_updL]) (by first | rfl | simp [vp_updL]) (by first | rfl | simp [vp_updL]) (by first | rfl | simp [vp_updL]) (by first | rfl | simp [vp_updL]) (by first | rfl | simp [vp_updL])) rfl ⟨(fun h9 => by rw [← ez_1]; first | omega | exact absurd h9 (by decide +kernel)), (fun h9 => by rw [← ez_1] at h9; first | decide | omega)⟩ hflhr_11, hst⟩, by rw [ht]; exact hP.sub [0, 1, 2, 3, 4, 5, 6, 7, 8, 9, 10, 11, 12, 13] rfl, hD.sub [0, 1, 2, 3, 4, 5, 6, 7, 8, 9, 10, 11, 12, 13] (by decide +kernel) rfl⟩, hS.F ht⟩) hS.2.2 dX3_gather_65
theorem dX12_due_0 : decode cX12_due 0 = .ok (.aload_n 0, 1) := by decide +kernel
theorem dX12_due_1 : decode cX12_due 1 = .ok (.iload_n 1, 1) := by decide +kernel
theorem dX12_due_10 : decode cX12_due 10 = .ok (.iload 4, 2) := by decide +kernel
theorem dX12_due_12 : decode cX12_due 12 = .ok (.invokestatic 120, 3) := by decide +kernel
theorem dX12_due_15 : decode cX12_due 15 = .ok (.ifCond .ne 7, 3) := by decide +kernel
theorem dX12_due_18 : decode cX12_due 18 = .ok (.ldc2_w 183, 3) := by decide +kernel
theorem dX12_due_2 : decode cX12_due 2 = .ok (.iload_n 2, 1) := by decide +kernel
theorem dX12_due_21 : decode cX12_due 21 = .ok (.lreturn, 1) := by decide +kernel
theorem dX12_due_22 : decode cX12_due 22 = .ok (.aload_n 0, 1) := by decide +kernel
theorem dX12_due_23 : decode cX12_due 23 = .ok (.getfield 52, 3) := by decide +kernel
theorem dX12_due_26 : decode cX12_due 26 = .ok (.iload_n 1, 1) := by decide +kernel
theorem dX12_due_27 : decode cX12_due 27 = .ok (.iload_n 2, 1) := by decide +kernel
theorem dX12_due_28 : decode cX12_due 28 = .ok (.iload_n 3, 1) := by decide +kernel
theorem dX12_due_29 : decode cX12_due 29 = .ok (.invokevirtual 253, 3) := by decide +kernel
theorem dX12_due_3 : decode cX12_due 3 = .ok (.iload_n 3, 1) := by decide +kernel
theorem dX12_due_32 : decode cX12_due 32 = .ok (.aload_n 0, 1) := by decide +kernel
theorem dX12_due_33 : decode cX12_due 33 = .ok (.getfield 52, 3) := by decide +kernel
theorem dX12_due_36 : decode cX12_due 36 = .ok (.getfield 256, 3) := by decide +kernel
theorem dX12_due_39 : decode cX12_due 39 = .ok (.ifCond .eq 9, 3) := by decide +kernel
theorem dX12_due_4 : decode cX12_due 4 = .ok (.invokevirtual 250, 3) := by decide +kernel
theorem dX12_due_42 : decode cX12_due 42 = .ok (.ldc2_w 200, 3) := by decide +kernel
theorem dX12_due_45 : decode cX12_due 45 = .ok (.goto 13, 3) := by decide +kernel
theorem dX12_due_48 : decode cX12_due 48 = .ok (.aload_n 0, 1) := by decide +kernel
theorem dX12_due_49 : decode cX12_due 49 = .ok (.getfield 52, 3) := by decide +kernel
theorem dX12_due_52 : decode cX12_due 52 = .ok (.getfield 259, 3) := by decide +kernel
theorem dX12_due_55 : decode cX12_due 55 = .ok (.iload 4, 2) := by decide +kernel
theorem dX12_due_57 : decode cX12_due 57 = .ok (.laload, 1) := by decide +kernel
theorem dX12_due_58 : decode cX12_due 58 = .ok (.lreturn, 1) := by decide +kernel
theorem dX12_due_7 : decode cX12_due 7 = .ok (.ifCond .eq 11, 3) := by decide +kernel
set_option maxRecDepth 20000 in
theorem ggX12_due_X12_isDay : GoodIn wsX12_due wsX12_isDay := goodIn_r _ [22, 23, 18, 9, 19] rfl (by decide +kernel)
set_option maxRecDepth 20000 in
theorem ggX12_due_X12_isHad : GoodIn wsX12_due wsX12_isHad := goodIn_r _ [10, 11, 12, 13, 14, 15, 16, 17, 18, 9, 19, 20, 21, 22, 23, 24, 25, 26, 184, 185, 186, 187, 188, 189, 190, 191, 192, 193, 194, 202, 203, 204, 205, 206, 207, 208, 209] rfl (by decide +kernel)
set_option maxRecDepth 40000 in
theorem ggX12_due_X3_gather_0 : GoodIn wsX12_due [.code yX3_gather cX3_gather 5 none] := goodIn_r _ [31] rfl (by decide +kernel)
set_option maxRecDepth 40000 in
theorem ggX12_due_X3_gather_1 : GoodIn wsX12_due wsX3_gather_r1 := goodIn_r _ [32, 33, 34, 35, 36, 37, 38, 39, 40, 30, 41, 42, 43, 44, 45, 46, 47, 48, 49, 50, 51, 52, 15, 53] rfl (by decide +kernel)
set_option maxRecDepth 40000 in
theorem ggX12_due_X3_gather_2 : GoodIn wsX12_due wsX3_gather_r2 := goodIn_r _ [54, 55, 56, 57, 58, 59, 60, 61, 62, 63, 64, 65, 66, 67, 68, 69, 70, 71, 72, 73, 74, 75, 76, 77] rfl (by decide +kernel)
set_option maxRecDepth 40000 in
theorem ggX12_due_X3_gather_3 : GoodIn wsX12_due wsX3_gather_r3 := goodIn_r _ [78, 79, 80, 81, 82, 83, 84, 85, 86, 87, 88, 89, 90, 91, 92, 93, 94, 95, 96, 97, 98, 99, 100, 101] rfl (by decide +kernel)
set_option maxRecDepth 40000 in
theorem ggX12_due_X3_gather_4 : GoodIn wsX12_due wsX3_gather_r4 := goodIn_r _ [102, 103, 104, 105, 106, 107, 108, 109, 110, 111, 112, 113, 114, 115, 116, 117, 118, 119, 120, 121, 122, 123, 124, 125] rfl (by decide +kernel)
set_option maxRecDepth 40000 in
theorem ggX12_due_X3_gather_5 : GoodIn wsX12_due wsX3_gather_r5 := goodIn_r _ [126, 127, 128, 129, 130, 131, 132, 133, 134, 135, 136, 137, 138, 139, 140, 141, 142, 143, 144, 145, 146, 147, 148, 149] rfl (by decide +kernel)
set_option maxRecDepth 40000 in
theorem ggX12_due_X3_gather_6 : GoodIn wsX12_due wsX3_gather_r6 := goodIn_r _ [150, 151, 152, 153, 154, 155, 156, 157, 158, 159, 160, 161, 162, 163, 164, 165, 166, 167, 168, 169, 170, 171, 172, 173] rfl (by decide +kernel)
set_option maxRecDepth 40000 in
theorem ggX12_due_X3_gather_7 : GoodIn wsX12_due wsX3_gather_r7 := goodIn_r _ [174, 175, 176, 177, 178, 179, 180, 181, 182, 183] rfl (by decide +kernel)
set_option maxRecDepth 40000 in
theorem ggX12_due_X3_gather_8 : GoodIn wsX12_due wsX30 := goodIn_r _ [195, 196, 197, 198, 199, 200, 201] rfl (by decide +kernel)
set_option maxRecDepth 40000 in
theorem ggX12_due_X3_gather_9 : GoodIn wsX12_due wsX20 := goodIn_r _ [202, 203, 204, 205, 206, 207, 208, 209] rfl (by decide +kernel)
set_option maxRecDepth 40000 in
theorem ggX12_due_X3_gather_10 : GoodIn wsX12_due wsX80 := goodIn_r _ [210, 211, 212, 213, 214, 215, 216] rfl (by decide +kernel)
set_option maxRecDepth 40000 in
theorem ggX12_due_X3_gather_11 : GoodIn wsX12_due wsX110 := goodIn_r _ [217, 218, 219, 220, 221, 222] rfl (by decide +kernel)
set_option maxRecDepth 40000 in
theorem ggX12_due_X3_gather : GoodIn wsX12_due wsX3_gather := (goodIn_app ggX12_due_X3_gather_0 (goodIn_app (goodIn_app (goodIn_app (goodIn_app (goodIn_app ggX12_due_X3_gather_1 (goodIn_app ggX12_due_X3_gather_2 (goodIn_app ggX12_due_X3_gather_3 (goodIn_app ggX12_due_X3_gather_4 (goodIn_app ggX12_due_X3_gather_5 (goodIn_app ggX12_due_X3_gather_6 ggX12_due_X3_gather_7)))))) ggX12_due_X3_gather_8) ggX12_due_X3_gather_9) ggX12_due_X3_gather_10) ggX12_due_X3_gather_11))
set_option maxRecDepth 20000 in
theorem gX12_due_X12_isDay : GoodIn wsX12_due (va_wsS RX12 120 yX12_isDay wsX12_isDay) := goodIn_app (goodIn_of _ (by decide +kernel)) ggX12_due_X12_isDay
set_option maxRecDepth 20000 in
theorem gX12_due_X12_isHad : GoodIn wsX12_due (wsV RX12 250 RX12 yX12_isHad wsX12_isHad) := goodIn_app (goodIn_r _ [6, 7, 8, 9] rfl (by decide +kernel)) ggX12_due_X12_isHad
set_option maxRecDepth 20000 in
theorem gX12_due_X3_gather : GoodIn wsX12_due (wsV RX12 253 RX3 yX3_gather wsX3_gather) := goodIn_app (goodIn_r _ [27, 28, 29, 30] rfl (by decide +kernel)) ggX12_due_X3_gather
theorem hv_X12_isHad : yX12_isHad.cls = RX12 ∧ yX12_isHad.cls ≠ "java/lang/invoke/MethodHandle" ∧ yX12_isHad.cls ≠ "java/lang/invoke/VarHandle" ∧ (parseMethodDescriptor yX12_isHad.desc).map (fun d => d.parameters.length) = some 3 := by decide +kernel
theorem hv_X3_gather : yX3_gather.cls = RX3 ∧ yX3_gather.cls ≠ "java/lang/invoke/MethodHandle" ∧ yX3_gather.cls ≠ "java/lang/invoke/VarHandle" ∧ (parseMethodDescriptor yX3_gather.desc).map (fun d => d.parameters.length) = some 3 := by decide +kernel
set_option maxRecDepth 20000 in
theorem in_X12_due_X12 : ∀ w ∈ wsX120, w ∈ wsX12_due := sub_r [184, 185, 186, 187, 188, 189, 190, 191, 192, 193, 194] rfl
set_option maxRecDepth 20000 in
theorem in_X12_due_X3 : ∀ w ∈ wsX30, w ∈ wsX12_due := sub_r [195, 196, 197, 198, 199, 200, 201] rfl
set_option maxHeartbeats 4000000 in
set_option maxRecDepth 100000 in
theorem c_X12_due (l : Launch) (D : va_G) (T : Nat → ClassId) (ad sa av : Nat → Nat) (ta : Nat) (sz : Nat) (h0 : Nat) (fa : Nat) (fs0 : List Value) (on : Nat) (dy : Int32) (mu : Int32) (pa : Int32) (fo : Nat → Int64) (wo : Nat) (la : Nat) (cl : Nat) (p0 : Nat) (p1 : Nat) (p4 : Nat) (n : Int32) (l9 : Nat → Int32) (n0 : Int32) (c1 : Nat) (c2 : Nat) (c3 : Nat) (c4 : Nat) (c5 : Nat) (c6 : Nat) (c7 : Nat) (f1 : Nat → Int32) (f2 : Nat → Int32) (f3 : Nat → Int32) (f4 : Nat → Int32) (f5 : Nat → Int32) (g0 : Nat → Int64) (g1 : Nat → Int64) (g4 : Nat → Int32) (f6 : Nat → Int32) (x1 : Int32) (x2 : Int32) (x3 : Int32) (x4 : Int32) (e0_4 : fs0[4]? = some (.ref cl)) (e0_7 : fs0[7]? = some (.ref fa)) (hn0 : 0 ≤ n0.toInt ∧ n0.toInt ≤ 24) (hok : okC f1 f3 f4 f5) (hmm : memW (VALW l9 f1 f2 f3 f4 f5) n0 n g0 g1 g4) (hlq : (1 ≤ (l9 4).toInt ∧ (l9 4).toInt ≤ 9) ∧ 1 ≤ (l9 6).toInt ∧ (l9 6).toInt ≤ 9) : Met l yX12_due wsX12_due ({ frames := 125, cells := 0, slots := 0, locals := 3987 }) (pWk [.ref h0, .int x1, .int x2, .int x3, .int x4] D T [(h0, .inr (9, fs0)), (fa, .inr (2, [.ref la, .ref cl, .ref wo, .ref on, .int dy, .int mu, .int pa])), (on, .inl (T 1, 7, .inr (.inl fo))), (wo, .inr (8, [.ref la, .ref cl, .ref p0, .ref p1, .ref p4, .int n])), (la, .inr (5, [.int (l9 0), .int (l9 1), .int (l9 2), .int (l9 3), .int (l9 4), .int (l9 5), .int (l9 6)])), (cl, .inr (1, [.int n0, .ref c1, .ref c2, .ref c3, .ref c4, .ref c5, .ref c6, .ref c7])), (c1, .inl (T 0, 24, .inl f1)), (c2, .inl (T 0, 24, .inl f2)), (c3, .inl (T 0, 24, .inl f3)), (c4, .inl (T 0, 24, .inl f4)), (c5, .inl (T 0, 24, .inl f5)), (p0, .inl (T 1, 676, .inr (.inl g0))), (p1, .inl (T 1, 676, .inr (.inl g1))), (p4, .inl (T 0, 672, .inl g4)), (c6, .inl (T 0, 24, .inl f6))] sz ad sa av ta) (va_Ql (fun (r : Int64) (u : (Nat → Int64) × Int32 × Int32 × (Nat → Int64) × (Nat → Int64) × (Nat → Int32) × Int32) => duQ l9 f1 f2 f3 f4 f5 f6 (VALW l9 f1 f2 f3 f4 f5) n0 x1 x2 x3 x4 r ∧ stW (VALW l9 f1 f2 f3 f4 f5) n0 n (fun _ => True) g0 g1 g4 u.2.2.2.1 u.2.2.2.2.1 u.2.2.2.2.2.1) (bW D (va_A [(h0, .inr (9, fs0)), (fa, .inr (2, [.ref la, .ref cl, .ref wo, .ref on, .int dy, .int mu, .int pa])), (on, .inl (T 1, 7, .inr (.inl fo))), (wo, .inr (8, [.ref la, .ref cl, .ref p0, .ref p1, .ref p4, .int n])), (la, .inr (5, [.int (l9 0), .int (l9 1), .int (l9 2), .int (l9 3), .int (l9 4), .int (l9 5), .int (l9 6)])), (cl, .inr (1, [.int n0, .ref c1, .ref c2, .ref c3, .ref c4, .ref c5, .ref c6, .ref c7])), (c1, .inl (T 0, 24, .inl f1)), (c2, .inl (T 0, 24, .inl f2)), (c3, .inl (T 0, 24, .inl f3)), (c4, .inl (T 0, 24, .inl f4)), (c5, .inl (T 0, 24, .inl f5)), (p0, .inl (T 1, 676, .inr (.inl g0))), (p1, .inl (T 1, 676, .inr (.inl g1))), (p4, .inl (T 0, 672, .inl g4)), (c6, .inl (T 0, 24, .inl f6))] sz) (fun (u : (Nat → Int64) × Int32 × Int32 × (Nat → Int64) × (Nat → Int64) × (Nat → Int32) × Int32) => [(h0, .inr (9, fs0)), (fa, .inr (2, [.ref la, .ref cl, .ref wo, .ref on, .int u.2.1, .int u.2.2.1, .int u.2.2.2.2.2.2])), (on, .inl (T 1, 7, .inr (.inl u.1))), (wo, .inr (8, [.ref la, .ref cl, .ref p0, .ref p1, .ref p4, .int n])), (la, .inr (5, [.int (l9 0), .int (l9 1), .int (l9 2), .int (l9 3), .int (l9 4), .int (l9 5), .int (l9 6)])), (cl, .inr (1, [.int n0, .ref c1, .ref c2, .ref c3, .ref c4, .ref c5, .ref c6, .ref c7])), (c1, .inl (T 0, 24, .inl f1)), (c2, .inl (T 0, 24, .inl f2)), (c3, .inl (T 0, 24, .inl f3)), (c4, .inl (T 0, 24, .inl f4)), (c5, .inl (T 0, 24, .inl f5)), (p0, .inl (T 1, 676, .inr (.inl u.2.2.2.1))), (p1, .inl (T 1, 676, .inr (.inl u.2.2.2.2.1))), (p4, .inl (T 0, 672, .inl u.2.2.2.2.2.1)), (c6, .inl (T 0, 24, .inl f6))])) (va_A [(h0, .inr (9, fs0)), (fa, .inr (2, [.ref la, .ref cl, .ref wo, .ref on, .int dy, .int mu, .int pa])), (on, .inl (T 1, 7, .inr (.inl fo))), (wo, .inr (8, [.ref la, .ref cl, .ref p0, .ref p1, .ref p4, .int n])), (la, .inr (5, [.int (l9 0), .int (l9 1), .int (l9 2), .int (l9 3), .int (l9 4), .int (l9 5), .int (l9 6)])), (cl, .inr (1, [.int n0, .ref c1, .ref c2, .ref c3, .ref c4, .ref c5, .ref c6, .ref c7])), (c1, .inl (T 0, 24, .inl f1)), (c2, .inl (T 0, 24, .inl f2)), (c3, .inl (T 0, 24, .inl f3)), (c4, .inl (T 0, 24, .inl f4)), (c5, .inl (T 0, 24, .inl f5)), (p0, .inl (T 1, 676, .inr (.inl g0))), (p1, .inl (T 1, 676, .inr (.inl g1))), (p4, .inl (T 0, 672, .inl g4)), (c6, .inl (T 0, 24, .inl f6))] sz)) 0 0 (va_A [(h0, .inr (9, fs0)), (fa, .inr (2, [.ref la, .ref cl, .ref wo, .ref on, .int dy, .int mu, .int pa])), (on, .inl (T 1, 7, .inr (.inl fo))), (wo, .inr (8, [.ref la, .ref cl, .ref p0, .ref p1, .ref p4, .int n])), (la, .inr (5, [.int (l9 0), .int (l9 1), .int (l9 2), .int (l9 3), .int (l9 4), .int (l9 5), .int (l9 6)])), (cl, .inr (1, [.int n0, .ref c1, .ref c2, .ref c3, .ref c4, .ref c5, .ref c6, .ref c7])), (c1, .inl (T 0, 24, .inl f1)), (c2, .inl (T 0, 24, .inl f2)), (c3, .inl (T 0, 24, .inl f3)), (c4, .inl (T 0, 24, .inl f4)), (c5, .inl (T 0, 24, .inl f5)), (p0, .inl (T 1, 676, .inr (.inl g0))), (p1, .inl (T 1, 676, .inr (.inl g1))), (p4, .inl (T 0, 672, .inl g4)), (c6, .inl (T 0, 24, .inl f6))] sz) := by
  refine Met.ofW (cc := cX12_due) (maxL := 5) (ret := (some .long)) (by decide +kernel) rfl ?_
  intro p e s m args below meth c s₁ B hml hv
  obtain ⟨rfl, hsz, hP, hE, hD0, hV⟩ := hv
  have hx := B.exec
  have hb := B.bytes
  have hr := B.returns
  have hts := atoms_spec (ws := wsX12_due) B.pre
  have hown : s.vm.findClass RX12 = some m.cls := findClass_of_methodNamed B.named
  have hlocks := B.notSynchronized
  subst hsz
  have hD := hD0.self (sz := s.heap.size)
  generalize hAe : va_A [(h0, .inr (9, fs0)), (fa, .inr (2, [.ref la, .ref cl, .ref wo, .ref on, .int dy, .int mu, .int pa])), (on, .inl (T 1, 7, .inr (.inl fo))), (wo, .inr (8, [.ref la, .ref cl, .ref p0, .ref p1, .ref p4, .int n])), (la, .inr (5, [.int (l9 0), .int (l9 1), .int (l9 2), .int (l9 3), .int (l9 4), .int (l9 5), .int (l9 6)])), (cl, .inr (1, [.int n0, .ref c1, .ref c2, .ref c3, .ref c4, .ref c5, .ref c6, .ref c7])), (c1, .inl (T 0, 24, .inl f1)), (c2, .inl (T 0, 24, .inl f2)), (c3, .inl (T 0, 24, .inl f3)), (c4, .inl (T 0, 24, .inl f4)), (c5, .inl (T 0, 24, .inl f5)), (p0, .inl (T 1, 676, .inr (.inl g0))), (p1, .inl (T 1, 676, .inr (.inl g1))), (p4, .inl (T 0, 672, .inl g4)), (c6, .inl (T 0, 24, .inl f6))] s.heap.size = A at hD hV ⊢
  have hA : ∀ q : Nat, s.heap.size ≤ q → A q := fun q h => by rw [← hAe]; exact Or.inr h
  have hS : va_S A s.heap s.heap [] := va_S.rf
  have hP : va_P D vwCl [(h0, .inr (9, fs0)), (fa, .inr (2, [.ref la, .ref cl, .ref wo, .ref on, .int dy, .int mu, .int pa])), (on, .inl (T 1, 7, .inr (.inl fo))), (wo, .inr (8, [.ref la, .ref cl, .ref p0, .ref p1, .ref p4, .int n])), (la, .inr (5, [.int (l9 0), .int (l9 1), .int (l9 2), .int (l9 3), .int (l9 4), .int (l9 5), .int (l9 6)])), (cl, .inr (1, [.int n0, .ref c1, .ref c2, .ref c3, .ref c4, .ref c5, .ref c6, .ref c7])), (c1, .inl (T 0, 24, .inl f1)), (c2, .inl (T 0, 24, .inl f2)), (c3, .inl (T 0, 24, .inl f3)), (c4, .inl (T 0, 24, .inl f4)), (c5, .inl (T 0, 24, .inl f5)), (p0, .inl (T 1, 676, .inr (.inl g0))), (p1, .inl (T 1, 676, .inr (.inl g1))), (p4, .inl (T 0, 672, .inl g4)), (c6, .inl (T 0, 24, .inl f6))] s.heap := hP
  have hl := lv_entry ([.ref h0, .int x1, .int x2, .int x3, .int x4]) (n := 5) (Nat.le_of_ble_eq_true rfl)
  rw [lg_entry_eq]
  generalize (lg_sl ([.ref h0, .int x1, .int x2, .int x3, .int x4]) ++ List.replicate (5 - (lg_sl ([.ref h0, .int x1, .int x2, .int x3, .int x4])).length) Slot.unset).toArray = ls at hl ⊢
  have hl : lv_has ls 5 [(0, .ref h0), (1, .int x1), (2, .int x2), (3, .int x3), (4, .int x4)] := hl
  clear hD0
  have hst : stW (VALW l9 f1 f2 f3 f4 f5) n0 n (fun _ => True) g0 g1 g4 g0 g1 g4 := stW_rf hmm
  refine lv_aload_n hx hb dX12_due_0 rfl (lv_at hl 0 rfl) ?_
  refine lv_iload_n hx hb dX12_due_1 rfl (lv_at hl 1 rfl) ?_
  refine lv_iload_n hx hb dX12_due_2 rfl (lv_at hl 2 rfl) ?_
  refine lv_iload_n hx hb dX12_due_3 rfl (lv_at hl 3 rfl) ?_
  refine vp_callSi (W.runV (As := [.int x1, .int x2, .int x3]) (rest := []) ⟨hx, hb, hml, hown, hts⟩ (c_X12_isHad l D T h0 fs0 cl [.int n0, .ref c1, .ref c2, .ref c3, .ref c4, .ref c5, .ref c6, .ref c7] x1 x2 x3 n0 e0_4 rfl (by omega)) (cwV 3 hts gX12_due_X12_isHad rfl rfl rfl hv_X12_isHad ⟨Nat.le_of_ble_eq_true rfl, Nat.le_of_ble_eq_true rfl⟩) (pR_V (q := (RX12, TX12, 11)) (ci := 9) (q0 := 0) hP hE rfl rfl [0, 5] rfl) rfl rfl hl.1 rfl (lv_room (Nat.le_of_ble_eq_true rfl)) dX12_due_4 ⟨Nat.le_of_ble_eq_true rfl, Nat.le_of_ble_eq_true rfl⟩) (fun r_1 hr_1 => ?_)
  rcases bool_post hr_1 with ⟨c_2, rfl⟩ | ⟨c_2, rfl⟩
  · refine lv_if_eq (tgt := 18) hx hb dX12_due_7 (by decide +kernel) (fun c9 => absurd c9 (by decide +kernel)) (fun _ => ?_)
    refine lv_iload hx hb dX12_due_10 (lv_at hl 4 rfl) ?_
    refine vp_callSi (W.runS (As := [.int x4]) (rest := []) ⟨hx, hb, hml, hown, hts⟩ (c_X12_isDay l D T x4) (va_cwS 1 hts gX12_due_X12_isDay rfl rfl rfl hs_X12_isDay ⟨Nat.le_of_ble_eq_true rfl, Nat.le_of_ble_eq_true rfl⟩) (pR_S hP hE [] rfl) rfl rfl hl.1 rfl (lv_room (Nat.le_of_ble_eq_true rfl)) dX12_due_12 ⟨Nat.le_of_ble_eq_true rfl, Nat.le_of_ble_eq_true rfl⟩) (fun r_3 hr_3 => ?_)
    rcases bool_post hr_3 with ⟨c_4, rfl⟩ | ⟨c_4, rfl⟩
    · refine lv_if_ne (tgt := 22) hx hb dX12_due_15 (by decide +kernel) (fun _ => ?_) (fun c9 => absurd c9 (by decide +kernel))
      refine lv_aload_n hx hb dX12_due_22 rfl (lv_at hl 0 rfl) ?_
      refine va_get (D := D) (ci := 9) (v := .ref fa) (C := RX12) (T := TX12) (N := 11) hx hb hts in_X12_due_X12 hown hE.1 hP 0 rfl rfl 7 (by decide +kernel) (hts (.fieldLink RX12 52 "ClauseBook" "falling" "LClauseBook$Falling;") (List.mem_of_getElem? (i := 2) rfl)) (fun _ h9 => h9) e0_7 dX12_due_23 ?_
      refine lv_iload_n hx hb dX12_due_26 rfl (lv_at hl 1 rfl) ?_
      refine lv_iload_n hx hb dX12_due_27 rfl (lv_at hl 2 rfl) ?_
      refine lv_iload_n hx hb dX12_due_28 rfl (lv_at hl 3 rfl) ?_
      have hFc := va_free (wc := [(fa, .inr (2, [.ref la, .ref cl, .ref wo, .ref on, .int dy, .int mu, .int pa])), (on, .inl (T 1, 7, .inr (.inl fo))), (wo, .inr (8, [.ref la, .ref cl, .ref p0, .ref p1, .ref p4, .int n])), (la, .inr (5, [.int (l9 0), .int (l9 1), .int (l9 2), .int (l9 3), .int (l9 4), .int (l9 5), .int (l9 6)])), (cl, .inr (1, [.int n0, .ref c1, .ref c2, .ref c3, .ref c4, .ref c5, .ref c6, .ref c7])), (c1, .inl (T 0, 24, .inl f1)), (c2, .inl (T 0, 24, .inl f2)), (c3, .inl (T 0, 24, .inl f3)), (c4, .inl (T 0, 24, .inl f4)), (c5, .inl (T 0, 24, .inl f5)), (p0, .inl (T 1, 676, .inr (.inl g0))), (p1, .inl (T 1, 676, .inr (.inl g1))), (p4, .inl (T 0, 672, .inl g4)), (c6, .inl (T 0, 24, .inl f6))]) hD hS hA [1, 2, 3, 4, 5, 6, 7, 8, 9, 10, 11, 12, 13, 14] rfl
      refine va_callv (va_runV (As := [.int x1, .int x2, .int x3]) (rest := []) ⟨hx, hb, hml, hown, hts⟩ (c_X3_gather l D T ad sa av ta _ fa on dy mu pa fo wo la cl p0 p1 p4 n l9 n0 c1 c2 c3 c4 c5 c6 c7 f1 f2 f3 f4 f5 g0 g1 g4 f6 x1 x2 x3 (by omega) (by omega) (by omega) hok (by omega) hmm hlq) (cwV 3 hts gX12_due_X3_gather rfl rfl rfl hv_X3_gather ⟨Nat.le_of_ble_eq_true rfl, Nat.le_of_ble_eq_true rfl⟩) (pWk_V (q := (RX3, TX3, 7)) (ci := 2) (q0 := 1) hP hE hD hV hS hFc rfl rfl [1, 2, 3, 4, 5, 6, 7, 8, 9, 10, 11, 12, 13, 14] (by decide +kernel) rfl rfl) rfl rfl hl.1 rfl (lv_room (Nat.le_of_ble_eq_true rfl)) dX12_due_29 ⟨Nat.le_of_ble_eq_true rfl, Nat.le_of_ble_eq_true rfl⟩) hS (fun q _ h => hFc q h) hFc (fun u_6 t H1 locs ht hvm hr_5 hB hz1 hk1 hS => ?_)
      obtain ⟨f_7, n_8, n_9, f_10, f_11, f_12⟩ := u_6
      have hsfhr_5 : stW (VALW l9 f1 f2 f3 f4 f5) n0 n (fun _ => True) g0 g1 g4 f_10 f_11 f_12 := hr_5.2
      have hst : stW (VALW l9 f1 f2 f3 f4 f5) n0 n (fun _ => True) g0 g1 g4 f_10 f_11 f_12 := hst.tr hsfhr_5 (fun _ _ => trivial)
      have hmm : memW (VALW l9 f1 f2 f3 f4 f5) n0 n f_10 f_11 f_12 := hst.1
      have hgahr_5 : dusP l9 f1 f2 f3 f4 f5 f6 (VALW l9 f1 f2 f3 f4 f5) x3 x1 x2 ((f_7, n_8, n_9) : duS) := hr_5.1
      obtain ⟨hP1, hD1⟩ := hB
      rw [ht] at hP1
      obtain ⟨hP, hD⟩ := va_repl [(h0, .inr (9, fs0)), (fa, .inr (2, [.ref la, .ref cl, .ref wo, .ref on, .int n_8, .int n_9, .int x3])), (on, .inl (T 1, 7, .inr (.inl f_7))), (wo, .inr (8, [.ref la, .ref cl, .ref p0, .ref p1, .ref p4, .int n])), (la, .inr (5, [.int (l9 0), .int (l9 1), .int (l9 2), .int (l9 3), .int (l9 4), .int (l9 5), .int (l9 6)])), (cl, .inr (1, [.int n0, .ref c1, .ref c2, .ref c3, .ref c4, .ref c5, .ref c6, .ref c7])), (c1, .inl (T 0, 24, .inl f1)), (c2, .inl (T 0, 24, .inl f2)), (c3, .inl (T 0, 24, .inl f3)), (c4, .inl (T 0, 24, .inl f4)), (c5, .inl (T 0, 24, .inl f5)), (p0, .inl (T 1, 676, .inr (.inl f_10))), (p1, .inl (T 1, 676, .inr (.inl f_11))), (p4, .inl (T 0, 672, .inl f_12)), (c6, .inl (T 0, 24, .inl f6))] hP hD [1, 2, 3, 4, 5, 6, 7, 8, 9, 10, 11, 12, 13, 14] [1, 2, 3, 4, 5, 6, 7, 8, 9, 10, 11, 12, 13, 14] rfl (by decide +kernel) rfl rfl rfl hk1 hP1
      clear hP1 hD1 hFc
      generalize H1 = H at hP hS ⊢
      refine lv_aload_n hx hb dX12_due_32 rfl (lv_at hl 0 rfl) ?_
      refine va_get (D := D) (ci := 9) (v := .ref fa) (C := RX12) (T := TX12) (N := 11) hx hb hts in_X12_due_X12 hown hE.1 hP 0 rfl rfl 7 (by decide +kernel) (hts (.fieldLink RX12 52 "ClauseBook" "falling" "LClauseBook$Falling;") (List.mem_of_getElem? (i := 2) rfl)) (fun _ h9 => h9) e0_7 dX12_due_33 ?_
      refine va_get (D := D) (ci := 2) (v := .int n_9) (C := RX3) (T := TX3) (N := 7) hx hb hts in_X12_due_X3 hown hE.1 hP 1 rfl rfl 5 (by decide +kernel) (hts (.fieldLink RX12 256 "ClauseBook$Falling" "much" "Z") (List.mem_of_getElem? (i := 3) rfl)) (fun _ h9 => h9) rfl dX12_due_36 ?_
      refine lv_if_eq (tgt := 48) hx hb dX12_due_39 (by decide +kernel) (fun c_13 => ?_) (fun c_13 => ?_)
      · rw [fa_eq] at c_13
        try rw [ti_0] at c_13
        refine lv_aload_n hx hb dX12_due_48 rfl (lv_at hl 0 rfl) ?_
        refine va_get (D := D) (ci := 9) (v := .ref fa) (C := RX12) (T := TX12) (N := 11) hx hb hts in_X12_due_X12 hown hE.1 hP 0 rfl rfl 7 (by decide +kernel) (hts (.fieldLink RX12 52 "ClauseBook" "falling" "LClauseBook$Falling;") (List.mem_of_getElem? (i := 2) rfl)) (fun _ h9 => h9) e0_7 dX12_due_49 ?_
        refine va_get (D := D) (ci := 2) (v := .ref on) (C := RX3) (T := TX3) (N := 7) hx hb hts in_X12_due_X3 hown hE.1 hP 1 rfl rfl 3 (by decide +kernel) (hts (.fieldLink RX12 259 "ClauseBook$Falling" "on" "[J") (List.mem_of_getElem? (i := 5) rfl)) (fun _ h9 => h9) rfl dX12_due_52 ?_
        refine lv_iload hx hb dX12_due_55 (lv_at hl 4 rfl) ?_
        refine va_lald hx hb hE.1 hP 2 1 rfl rfl (by rw [vp_in_iff]; first | omega | (subst_vars; omega)) dX12_due_57 ?_
        refine lv_topl (fun z_14 ez_14 => ?_)
        exact W.lret hx hb hr (fun t ht hW => ⟨⟨_, (f_7, n_8, n_9, f_10, f_11, f_12, x3), rfl, ⟨(Or.inr ⟨⟨⟨(by omega), (by omega), (by omega)⟩, (by omega), (by omega)⟩, ((f_7, n_8, n_9) : duS), hgahr_5, Or.inr ⟨(show (n_9 : Int32).toInt = 0 from by omega), (by first | exact ez_14 | rfl)⟩⟩), hst⟩, by rw [ht]; exact hP.sub [0, 1, 2, 3, 4, 5, 6, 7, 8, 9, 10, 11, 12, 13, 14] rfl, hD.sub [0, 1, 2, 3, 4, 5, 6, 7, 8, 9, 10, 11, 12, 13, 14] (by decide +kernel) rfl⟩, hS.F ht⟩) hS.2.2 dX12_due_58
      · rw [fa_eq] at c_13
        try rw [ti_0] at c_13
        refine lv_ldc2 (v := (-4611686018427387909)) hx hb hown (hts (.constantLong RX12 200 (-4611686018427387909)) (List.mem_of_getElem? (i := 4) rfl)) dX12_due_42 ?_
        refine lv_goto (tgt := 58) hx hb dX12_due_45 (by decide +kernel) ?_
        exact W.lret hx hb hr (fun t ht hW => ⟨⟨_, (f_7, n_8, n_9, f_10, f_11, f_12, x3), rfl, ⟨(Or.inr ⟨⟨⟨(by omega), (by omega), (by omega)⟩, (by omega), (by omega)⟩, ((f_7, n_8, n_9) : duS), hgahr_5, Or.inl ⟨(show ¬ (n_9 : Int32).toInt = 0 from by omega), (by decide +kernel)⟩⟩), hst⟩, by rw [ht]; exact hP.sub [0, 1, 2, 3, 4, 5, 6, 7, 8, 9, 10, 11, 12, 13, 14] rfl, hD.sub [0, 1, 2, 3, 4, 5, 6, 7, 8, 9, 10, 11, 12, 13, 14] (by decide +kernel) rfl⟩, hS.F ht⟩) hS.2.2 dX12_due_58
    · refine lv_if_ne (tgt := 22) hx hb dX12_due_15 (by decide +kernel) (fun c9 => absurd c9 (by decide +kernel)) (fun _ => ?_)
      refine lv_ldc2 (v := (-4611686018427387906)) hx hb hown (hts (.constantLong RX12 183 (-4611686018427387906)) (List.mem_of_getElem? (i := 1) rfl)) dX12_due_18 ?_
      exact W.lret hx hb hr (fun t ht hW => ⟨⟨_, (fo, dy, mu, g0, g1, g4, pa), rfl, ⟨(Or.inl ⟨(fun h9 => by obtain ⟨⟨h1, h2, h3⟩, h4⟩ := h9; omega), (by decide +kernel)⟩), hst⟩, by rw [ht]; exact hP.sub [0, 1, 2, 3, 4, 5, 6, 7, 8, 9, 10, 11, 12, 13, 14] rfl, hD.sub [0, 1, 2, 3, 4, 5, 6, 7, 8, 9, 10, 11, 12, 13, 14] (by decide +kernel) rfl⟩, hS.F ht⟩) hS.2.2 dX12_due_21
  · refine lv_if_eq (tgt := 18) hx hb dX12_due_7 (by decide +kernel) (fun _ => ?_) (fun c9 => absurd c9 (by decide +kernel))
    refine lv_ldc2 (v := (-4611686018427387906)) hx hb hown (hts (.constantLong RX12 183 (-4611686018427387906)) (List.mem_of_getElem? (i := 1) rfl)) dX12_due_18 ?_
    exact W.lret hx hb hr (fun t ht hW => ⟨⟨_, (fo, dy, mu, g0, g1, g4, pa), rfl, ⟨(Or.inl ⟨(fun h9 => by obtain ⟨⟨h1, h2, h3⟩, h4⟩ := h9; omega), (by decide +kernel)⟩), hst⟩, by rw [ht]; exact hP.sub [0, 1, 2, 3, 4, 5, 6, 7, 8, 9, 10, 11, 12, 13, 14] rfl, hD.sub [0, 1, 2, 3, 4, 5, 6, 7, 8, 9, 10, 11, 12, 13, 14] (by decide +kernel) rfl⟩, hS.F ht⟩) hS.2.2 dX12_due_21
theorem dX12_dueDays_0 : decode cX12_dueDays 0 = .ok (.aload_n 0, 1) := by decide +kernel
theorem dX12_dueDays_1 : decode cX12_dueDays 1 = .ok (.iload_n 1, 1) := by decide +kernel
theorem dX12_dueDays_10 : decode cX12_dueDays 10 = .ok (.bipush (-2), 2) := by decide +kernel
theorem dX12_dueDays_12 : decode cX12_dueDays 12 = .ok (.ireturn, 1) := by decide +kernel
theorem dX12_dueDays_13 : decode cX12_dueDays 13 = .ok (.aload_n 0, 1) := by decide +kernel
theorem dX12_dueDays_14 : decode cX12_dueDays 14 = .ok (.getfield 52, 3) := by decide +kernel
theorem dX12_dueDays_17 : decode cX12_dueDays 17 = .ok (.iload_n 1, 1) := by decide +kernel
theorem dX12_dueDays_18 : decode cX12_dueDays 18 = .ok (.iload_n 2, 1) := by decide +kernel
theorem dX12_dueDays_19 : decode cX12_dueDays 19 = .ok (.iload_n 3, 1) := by decide +kernel
theorem dX12_dueDays_2 : decode cX12_dueDays 2 = .ok (.iload_n 2, 1) := by decide +kernel
theorem dX12_dueDays_20 : decode cX12_dueDays 20 = .ok (.invokevirtual 253, 3) := by decide +kernel
theorem dX12_dueDays_23 : decode cX12_dueDays 23 = .ok (.aload_n 0, 1) := by decide +kernel
theorem dX12_dueDays_24 : decode cX12_dueDays 24 = .ok (.getfield 52, 3) := by decide +kernel
theorem dX12_dueDays_27 : decode cX12_dueDays 27 = .ok (.getfield 256, 3) := by decide +kernel
theorem dX12_dueDays_3 : decode cX12_dueDays 3 = .ok (.iload_n 3, 1) := by decide +kernel
theorem dX12_dueDays_30 : decode cX12_dueDays 30 = .ok (.ifCond .eq 8, 3) := by decide +kernel
theorem dX12_dueDays_33 : decode cX12_dueDays 33 = .ok (.bipush (-5), 2) := by decide +kernel
theorem dX12_dueDays_35 : decode cX12_dueDays 35 = .ok (.goto 10, 3) := by decide +kernel
theorem dX12_dueDays_38 : decode cX12_dueDays 38 = .ok (.aload_n 0, 1) := by decide +kernel
theorem dX12_dueDays_39 : decode cX12_dueDays 39 = .ok (.getfield 52, 3) := by decide +kernel
theorem dX12_dueDays_4 : decode cX12_dueDays 4 = .ok (.invokevirtual 250, 3) := by decide +kernel
theorem dX12_dueDays_42 : decode cX12_dueDays 42 = .ok (.getfield 262, 3) := by decide +kernel
theorem dX12_dueDays_45 : decode cX12_dueDays 45 = .ok (.ireturn, 1) := by decide +kernel
theorem dX12_dueDays_7 : decode cX12_dueDays 7 = .ok (.ifCond .ne 6, 3) := by decide +kernel
set_option maxRecDepth 20000 in
theorem ggX12_dueDays_X12_isHad : GoodIn wsX12_dueDays wsX12_isHad := goodIn_r _ [8, 9, 10, 11, 12, 13, 14, 15, 16, 7, 17, 18, 19, 20, 21, 22, 23, 24, 182, 183, 184, 185, 186, 187, 188, 189, 190, 191, 192, 200, 201, 202, 203, 204, 205, 206, 207] rfl (by decide +kernel)
set_option maxRecDepth 40000 in
theorem ggX12_dueDays_X3_gather_0 : GoodIn wsX12_dueDays [.code yX3_gather cX3_gather 5 none] := goodIn_r _ [29] rfl (by decide +kernel)
set_option maxRecDepth 40000 in
theorem ggX12_dueDays_X3_gather_1 : GoodIn wsX12_dueDays wsX3_gather_r1 := goodIn_r _ [30, 31, 32, 33, 34, 35, 36, 37, 38, 28, 39, 40, 41, 42, 43, 44, 45, 46, 47, 48, 49, 50, 13, 51] rfl (by decide +kernel)
set_option maxRecDepth 40000 in
theorem ggX12_dueDays_X3_gather_2 : GoodIn wsX12_dueDays wsX3_gather_r2 := goodIn_r _ [52, 53, 54, 55, 56, 57, 58, 59, 60, 61, 62, 63, 64, 65, 66, 67, 68, 69, 70, 71, 72, 73, 74, 75] rfl (by decide +kernel)
set_option maxRecDepth 40000 in
theorem ggX12_dueDays_X3_gather_3 : GoodIn wsX12_dueDays wsX3_gather_r3 := goodIn_r _ [76, 77, 78, 79, 80, 81, 82, 83, 84, 85, 86, 87, 88, 89, 90, 91, 92, 93, 94, 95, 96, 97, 98, 99] rfl (by decide +kernel)
set_option maxRecDepth 40000 in
theorem ggX12_dueDays_X3_gather_4 : GoodIn wsX12_dueDays wsX3_gather_r4 := goodIn_r _ [100, 101, 102, 103, 104, 105, 106, 107, 108, 109, 110, 111, 112, 113, 114, 115, 116, 117, 118, 119, 120, 121, 122, 123] rfl (by decide +kernel)
set_option maxRecDepth 40000 in
theorem ggX12_dueDays_X3_gather_5 : GoodIn wsX12_dueDays wsX3_gather_r5 := goodIn_r _ [124, 125, 126, 127, 128, 129, 130, 131, 132, 133, 134, 135, 136, 137, 138, 139, 140, 141, 142, 143, 144, 145, 146, 147] rfl (by decide +kernel)
set_option maxRecDepth 40000 in
theorem ggX12_dueDays_X3_gather_6 : GoodIn wsX12_dueDays wsX3_gather_r6 := goodIn_r _ [148, 149, 150, 151, 152, 153, 154, 155, 156, 157, 158, 159, 160, 161, 162, 163, 164, 165, 166, 167, 168, 169, 170, 171] rfl (by decide +kernel)
set_option maxRecDepth 40000 in
theorem ggX12_dueDays_X3_gather_7 : GoodIn wsX12_dueDays wsX3_gather_r7 := goodIn_r _ [172, 173, 174, 175, 176, 177, 178, 179, 180, 181] rfl (by decide +kernel)
set_option maxRecDepth 40000 in
theorem ggX12_dueDays_X3_gather_8 : GoodIn wsX12_dueDays wsX30 := goodIn_r _ [193, 194, 195, 196, 197, 198, 199] rfl (by decide +kernel)
set_option maxRecDepth 40000 in
theorem ggX12_dueDays_X3_gather_9 : GoodIn wsX12_dueDays wsX20 := goodIn_r _ [200, 201, 202, 203, 204, 205, 206, 207] rfl (by decide +kernel)
set_option maxRecDepth 40000 in
theorem ggX12_dueDays_X3_gather_10 : GoodIn wsX12_dueDays wsX80 := goodIn_r _ [208, 209, 210, 211, 212, 213, 214] rfl (by decide +kernel)
set_option maxRecDepth 40000 in
theorem ggX12_dueDays_X3_gather_11 : GoodIn wsX12_dueDays wsX110 := goodIn_r _ [215, 216, 217, 218, 219, 220] rfl (by decide +kernel)
set_option maxRecDepth 40000 in
theorem ggX12_dueDays_X3_gather : GoodIn wsX12_dueDays wsX3_gather := (goodIn_app ggX12_dueDays_X3_gather_0 (goodIn_app (goodIn_app (goodIn_app (goodIn_app (goodIn_app ggX12_dueDays_X3_gather_1 (goodIn_app ggX12_dueDays_X3_gather_2 (goodIn_app ggX12_dueDays_X3_gather_3 (goodIn_app ggX12_dueDays_X3_gather_4 (goodIn_app ggX12_dueDays_X3_gather_5 (goodIn_app ggX12_dueDays_X3_gather_6 ggX12_dueDays_X3_gather_7)))))) ggX12_dueDays_X3_gather_8) ggX12_dueDays_X3_gather_9) ggX12_dueDays_X3_gather_10) ggX12_dueDays_X3_gather_11))
set_option maxRecDepth 20000 in
theorem gX12_dueDays_X12_isHad : GoodIn wsX12_dueDays (wsV RX12 250 RX12 yX12_isHad wsX12_isHad) := goodIn_app (goodIn_r _ [4, 5, 6, 7] rfl (by decide +kernel)) ggX12_dueDays_X12_isHad
set_option maxRecDepth 20000 in
theorem gX12_dueDays_X3_gather : GoodIn wsX12_dueDays (wsV RX12 253 RX3 yX3_gather wsX3_gather) := goodIn_app (goodIn_r _ [25, 26, 27, 28] rfl (by decide +kernel)) ggX12_dueDays_X3_gather
set_option maxRecDepth 20000 in
theorem in_X12_dueDays_X12 : ∀ w ∈ wsX120, w ∈ wsX12_dueDays := sub_r [182, 183, 184, 185, 186, 187, 188, 189, 190, 191, 192] rfl
set_option maxRecDepth 20000 in
theorem in_X12_dueDays_X3 : ∀ w ∈ wsX30, w ∈ wsX12_dueDays := sub_r [193, 194, 195, 196, 197, 198, 199] rfl
set_option maxHeartbeats 4000000 in
set_option maxRecDepth 100000 in
theorem c_X12_dueDays (l : Launch) (D : va_G) (T : Nat → ClassId) (ad sa av : Nat → Nat) (ta : Nat) (sz : Nat) (h0 : Nat) (fa : Nat) (fs0 : List Value) (on : Nat) (dy : Int32) (mu : Int32) (pa : Int32) (fo : Nat → Int64) (wo : Nat) (la : Nat) (cl : Nat) (p0 : Nat) (p1 : Nat) (p4 : Nat) (n : Int32) (l9 : Nat → Int32) (n0 : Int32) (c1 : Nat) (c2 : Nat) (c3 : Nat) (c4 : Nat) (c5 : Nat) (c6 : Nat) (c7 : Nat) (f1 : Nat → Int32) (f2 : Nat → Int32) (f3 : Nat → Int32) (f4 : Nat → Int32) (f5 : Nat → Int32) (g0 : Nat → Int64) (g1 : Nat → Int64) (g4 : Nat → Int32) (f6 : Nat → Int32) (x1 : Int32) (x2 : Int32) (x3 : Int32) (e0_4 : fs0[4]? = some (.ref cl)) (e0_7 : fs0[7]? = some (.ref fa)) (hn0 : 0 ≤ n0.toInt ∧ n0.toInt ≤ 24) (hok : okC f1 f3 f4 f5) (hmm : memW (VALW l9 f1 f2 f3 f4 f5) n0 n g0 g1 g4) (hlq : (1 ≤ (l9 4).toInt ∧ (l9 4).toInt ≤ 9) ∧ 1 ≤ (l9 6).toInt ∧ (l9 6).toInt ≤ 9) : Met l yX12_dueDays wsX12_dueDays ({ frames := 125, cells := 0, slots := 0, locals := 3987 }) (pWk [.ref h0, .int x1, .int x2, .int x3] D T [(h0, .inr (9, fs0)), (fa, .inr (2, [.ref la, .ref cl, .ref wo, .ref on, .int dy, .int mu, .int pa])), (on, .inl (T 1, 7, .inr (.inl fo))), (wo, .inr (8, [.ref la, .ref cl, .ref p0, .ref p1, .ref p4, .int n])), (la, .inr (5, [.int (l9 0), .int (l9 1), .int (l9 2), .int (l9 3), .int (l9 4), .int (l9 5), .int (l9 6)])), (cl, .inr (1, [.int n0, .ref c1, .ref c2, .ref c3, .ref c4, .ref c5, .ref c6, .ref c7])), (c1, .inl (T 0, 24, .inl f1)), (c2, .inl (T 0, 24, .inl f2)), (c3, .inl (T 0, 24, .inl f3)), (c4, .inl (T 0, 24, .inl f4)), (c5, .inl (T 0, 24, .inl f5)), (p0, .inl (T 1, 676, .inr (.inl g0))), (p1, .inl (T 1, 676, .inr (.inl g1))), (p4, .inl (T 0, 672, .inl g4)), (c6, .inl (T 0, 24, .inl f6))] sz ad sa av ta) (va_Qi (fun (r : Int32) (u : (Nat → Int64) × Int32 × Int32 × (Nat → Int64) × (Nat → Int64) × (Nat → Int32) × Int32) => ddQ l9 f1 f2 f3 f4 f5 f6 (VALW l9 f1 f2 f3 f4 f5) n0 x1 x2 x3 r ∧ stW (VALW l9 f1 f2 f3 f4 f5) n0 n (fun _ => True) g0 g1 g4 u.2.2.2.1 u.2.2.2.2.1 u.2.2.2.2.2.1) (bW D (va_A [(h0, .inr (9, fs0)), (fa, .inr (2, [.ref la, .ref cl, .ref wo, .ref on, .int dy, .int mu, .int pa])), (on, .inl (T 1, 7, .inr (.inl fo))), (wo, .inr (8, [.ref la, .ref cl, .ref p0, .ref p1, .ref p4, .int n])), (la, .inr (5, [.int (l9 0), .int (l9 1), .int (l9 2), .int (l9 3), .int (l9 4), .int (l9 5), .int (l9 6)])), (cl, .inr (1, [.int n0, .ref c1, .ref c2, .ref c3, .ref c4, .ref c5, .ref c6, .ref c7])), (c1, .inl (T 0, 24, .inl f1)), (c2, .inl (T 0, 24, .inl f2)), (c3, .inl (T 0, 24, .inl f3)), (c4, .inl (T 0, 24, .inl f4)), (c5, .inl (T 0, 24, .inl f5)), (p0, .inl (T 1, 676, .inr (.inl g0))), (p1, .inl (T 1, 676, .inr (.inl g1))), (p4, .inl (T 0, 672, .inl g4)), (c6, .inl (T 0, 24, .inl f6))] sz) (fun (u : (Nat → Int64) × Int32 × Int32 × (Nat → Int64) × (Nat → Int64) × (Nat → Int32) × Int32) => [(h0, .inr (9, fs0)), (fa, .inr (2, [.ref la, .ref cl, .ref wo, .ref on, .int u.2.1, .int u.2.2.1, .int u.2.2.2.2.2.2])), (on, .inl (T 1, 7, .inr (.inl u.1))), (wo, .inr (8, [.ref la, .ref cl, .ref p0, .ref p1, .ref p4, .int n])), (la, .inr (5, [.int (l9 0), .int (l9 1), .int (l9 2), .int (l9 3), .int (l9 4), .int (l9 5), .int (l9 6)])), (cl, .inr (1, [.int n0, .ref c1, .ref c2, .ref c3, .ref c4, .ref c5, .ref c6, .ref c7])), (c1, .inl (T 0, 24, .inl f1)), (c2, .inl (T 0, 24, .inl f2)), (c3, .inl (T 0, 24, .inl f3)), (c4, .inl (T 0, 24, .inl f4)), (c5, .inl (T 0, 24, .inl f5)), (p0, .inl (T 1, 676, .inr (.inl u.2.2.2.1))), (p1, .inl (T 1, 676, .inr (.inl u.2.2.2.2.1))), (p4, .inl (T 0, 672, .inl u.2.2.2.2.2.1)), (c6, .inl (T 0, 24, .inl f6))])) (va_A [(h0, .inr (9, fs0)), (fa, .inr (2, [.ref la, .ref cl, .ref wo, .ref on, .int dy, .int mu, .int pa])), (on, .inl (T 1, 7, .inr (.inl fo))), (wo, .inr (8, [.ref la, .ref cl, .ref p0, .ref p1, .ref p4, .int n])), (la, .inr (5, [.int (l9 0), .int (l9 1), .int (l9 2), .int (l9 3), .int (l9 4), .int (l9 5), .int (l9 6)])), (cl, .inr (1, [.int n0, .ref c1, .ref c2, .ref c3, .ref c4, .ref c5, .ref c6, .ref c7])), (c1, .inl (T 0, 24, .inl f1)), (c2, .inl (T 0, 24, .inl f2)), (c3, .inl (T 0, 24, .inl f3)), (c4, .inl (T 0, 24, .inl f4)), (c5, .inl (T 0, 24, .inl f5)), (p0, .inl (T 1, 676, .inr (.inl g0))), (p1, .inl (T 1, 676, .inr (.inl g1))), (p4, .inl (T 0, 672, .inl g4)), (c6, .inl (T 0, 24, .inl f6))] sz)) 0 0 (va_A [(h0, .inr (9, fs0)), (fa, .inr (2, [.ref la, .ref cl, .ref wo, .ref on, .int dy, .int mu, .int pa])), (on, .inl (T 1, 7, .inr (.inl fo))), (wo, .inr (8, [.ref la, .ref cl, .ref p0, .ref p1, .ref p4, .int n])), (la, .inr (5, [.int (l9 0), .int (l9 1), .int (l9 2), .int (l9 3), .int (l9 4), .int (l9 5), .int (l9 6)])), (cl, .inr (1, [.int n0, .ref c1, .ref c2, .ref c3, .ref c4, .ref c5, .ref c6, .ref c7])), (c1, .inl (T 0, 24, .inl f1)), (c2, .inl (T 0, 24, .inl f2)), (c3, .inl (T 0, 24, .inl f3)), (c4, .inl (T 0, 24, .inl f4)), (c5, .inl (T 0, 24, .inl f5)), (p0, .inl (T 1, 676, .inr (.inl g0))), (p1, .inl (T 1, 676, .inr (.inl g1))), (p4, .inl (T 0, 672, .inl g4)), (c6, .inl (T 0, 24, .inl f6))] sz) := by
  refine Met.ofW (cc := cX12_dueDays) (maxL := 4) (ret := (some .int)) (by decide +kernel) rfl ?_
  intro p e s m args below meth c s₁ B hml hv
  obtain ⟨rfl, hsz, hP, hE, hD0, hV⟩ := hv
  have hx := B.exec
  have hb := B.bytes
  have hr := B.returns
  have hts := atoms_spec (ws := wsX12_dueDays) B.pre
  have hown : s.vm.findClass RX12 = some m.cls := findClass_of_methodNamed B.named
  have hlocks := B.notSynchronized
  subst hsz
  have hD := hD0.self (sz := s.heap.size)
  generalize hAe : va_A [(h0, .inr (9, fs0)), (fa, .inr (2, [.ref la, .ref cl, .ref wo, .ref on, .int dy, .int mu, .int pa])), (on, .inl (T 1, 7, .inr (.inl fo))), (wo, .inr (8, [.ref la, .ref cl, .ref p0, .ref p1, .ref p4, .int n])), (la, .inr (5, [.int (l9 0), .int (l9 1), .int (l9 2), .int (l9 3), .int (l9 4), .int (l9 5), .int (l9 6)])), (cl, .inr (1, [.int n0, .ref c1, .ref c2, .ref c3, .ref c4, .ref c5, .ref c6, .ref c7])), (c1, .inl (T 0, 24, .inl f1)), (c2, .inl (T 0, 24, .inl f2)), (c3, .inl (T 0, 24, .inl f3)), (c4, .inl (T 0, 24, .inl f4)), (c5, .inl (T 0, 24, .inl f5)), (p0, .inl (T 1, 676, .inr (.inl g0))), (p1, .inl (T 1, 676, .inr (.inl g1))), (p4, .inl (T 0, 672, .inl g4)), (c6, .inl (T 0, 24, .inl f6))] s.heap.size = A at hD hV ⊢
  have hA : ∀ q : Nat, s.heap.size ≤ q → A q := fun q h => by rw [← hAe]; exact Or.inr h
  have hS : va_S A s.heap s.heap [] := va_S.rf
  have hP : va_P D vwCl [(h0, .inr (9, fs0)), (fa, .inr (2, [.ref la, .ref cl, .ref wo, .ref on, .int dy, .int mu, .int pa])), (on, .inl (T 1, 7, .inr (.inl fo))), (wo, .inr (8, [.ref la, .ref cl, .ref p0, .ref p1, .ref p4, .int n])), (la, .inr (5, [.int (l9 0), .int (l9 1), .int (l9 2), .int (l9 3), .int (l9 4), .int (l9 5), .int (l9 6)])), (cl, .inr (1, [.int n0, .ref c1, .ref c2, .ref c3, .ref c4, .ref c5, .ref c6, .ref c7])), (c1, .inl (T 0, 24, .inl f1)), (c2, .inl (T 0, 24, .inl f2)), (c3, .inl (T 0, 24, .inl f3)), (c4, .inl (T 0, 24, .inl f4)), (c5, .inl (T 0, 24, .inl f5)), (p0, .inl (T 1, 676, .inr (.inl g0))), (p1, .inl (T 1, 676, .inr (.inl g1))), (p4, .inl (T 0, 672, .inl g4)), (c6, .inl (T 0, 24, .inl f6))] s.heap := hP
  have hl := lv_entry ([.ref h0, .int x1, .int x2, .int x3]) (n := 4) (Nat.le_of_ble_eq_true rfl)
  rw [lg_entry_eq]
  generalize (lg_sl ([.ref h0, .int x1, .int x2, .int x3]) ++ List.replicate (4 - (lg_sl ([.ref h0, .int x1, .int x2, .int x3])).length) Slot.unset).toArray = ls at hl ⊢
  have hl : lv_has ls 4 [(0, .ref h0), (1, .int x1), (2, .int x2), (3, .int x3)] := hl
  clear hD0
  have hst : stW (VALW l9 f1 f2 f3 f4 f5) n0 n (fun _ => True) g0 g1 g4 g0 g1 g4 := stW_rf hmm
  refine lv_aload_n hx hb dX12_dueDays_0 rfl (lv_at hl 0 rfl) ?_
  refine lv_iload_n hx hb dX12_dueDays_1 rfl (lv_at hl 1 rfl) ?_
  refine lv_iload_n hx hb dX12_dueDays_2 rfl (lv_at hl 2 rfl) ?_
  refine lv_iload_n hx hb dX12_dueDays_3 rfl (lv_at hl 3 rfl) ?_
  refine vp_callSi (W.runV (As := [.int x1, .int x2, .int x3]) (rest := []) ⟨hx, hb, hml, hown, hts⟩ (c_X12_isHad l D T h0 fs0 cl [.int n0, .ref c1, .ref c2, .ref c3, .ref c4, .ref c5, .ref c6, .ref c7] x1 x2 x3 n0 e0_4 rfl (by omega)) (cwV 3 hts gX12_dueDays_X12_isHad rfl rfl rfl hv_X12_isHad ⟨Nat.le_of_ble_eq_true rfl, Nat.le_of_ble_eq_true rfl⟩) (pR_V (q := (RX12, TX12, 11)) (ci := 9) (q0 := 0) hP hE rfl rfl [0, 5] rfl) rfl rfl hl.1 rfl (lv_room (Nat.le_of_ble_eq_true rfl)) dX12_dueDays_4 ⟨Nat.le_of_ble_eq_true rfl, Nat.le_of_ble_eq_true rfl⟩) (fun r_1 hr_1 => ?_)
  rcases bool_post hr_1 with ⟨c_2, rfl⟩ | ⟨c_2, rfl⟩
  · refine lv_if_ne (tgt := 13) hx hb dX12_dueDays_7 (by decide +kernel) (fun _ => ?_) (fun c9 => absurd c9 (by decide +kernel))
    refine lv_aload_n hx hb dX12_dueDays_13 rfl (lv_at hl 0 rfl) ?_
    refine va_get (D := D) (ci := 9) (v := .ref fa) (C := RX12) (T := TX12) (N := 11) hx hb hts in_X12_dueDays_X12 hown hE.1 hP 0 rfl rfl 7 (by decide +kernel) (hts (.fieldLink RX12 52 "ClauseBook" "falling" "LClauseBook$Falling;") (List.mem_of_getElem? (i := 1) rfl)) (fun _ h9 => h9) e0_7 dX12_dueDays_14 ?_
    refine lv_iload_n hx hb dX12_dueDays_17 rfl (lv_at hl 1 rfl) ?_
    refine lv_iload_n hx hb dX12_dueDays_18 rfl (lv_at hl 2 rfl) ?_
    refine lv_iload_n hx hb dX12_dueDays_19 rfl (lv_at hl 3 rfl) ?_
    have hFc := va_free (wc := [(fa, .inr (2, [.ref la, .ref cl, .ref wo, .ref on, .int dy, .int mu, .int pa])), (on, .inl (T 1, 7, .inr (.inl fo))), (wo, .inr (8, [.ref la, .ref cl, .ref p0, .ref p1, .ref p4, .int n])), (la, .inr (5, [.int (l9 0), .int (l9 1), .int (l9 2), .int (l9 3), .int (l9 4), .int (l9 5), .int (l9 6)])), (cl, .inr (1, [.int n0, .ref c1, .ref c2, .ref c3, .ref c4, .ref c5, .ref c6, .ref c7])), (c1, .inl (T 0, 24, .inl f1)), (c2, .inl (T 0, 24, .inl f2)), (c3, .inl (T 0, 24, .inl f3)), (c4, .inl (T 0, 24, .inl f4)), (c5, .inl (T 0, 24, .inl f5)), (p0, .inl (T 1, 676, .inr (.inl g0))), (p1, .inl (T 1, 676, .inr (.inl g1))), (p4, .inl (T 0, 672, .inl g4)), (c6, .inl (T 0, 24, .inl f6))]) hD hS hA [1, 2, 3, 4, 5, 6, 7, 8, 9, 10, 11, 12, 13, 14] rfl
    refine va_callv (va_runV (As := [.int x1, .int x2, .int x3]) (rest := []) ⟨hx, hb, hml, hown, hts⟩ (c_X3_gather l D T ad sa av ta _ fa on dy mu pa fo wo la cl p0 p1 p4 n l9 n0 c1 c2 c3 c4 c5 c6 c7 f1 f2 f3 f4 f5 g0 g1 g4 f6 x1 x2 x3 (by omega) (by omega) (by omega) hok (by omega) hmm hlq) (cwV 3 hts gX12_dueDays_X3_gather rfl rfl rfl hv_X3_gather ⟨Nat.le_of_ble_eq_true rfl, Nat.le_of_ble_eq_true rfl⟩) (pWk_V (q := (RX3, TX3, 7)) (ci := 2) (q0 := 1) hP hE hD hV hS hFc rfl rfl [1, 2, 3, 4, 5, 6, 7, 8, 9, 10, 11, 12, 13, 14] (by decide +kernel) rfl rfl) rfl rfl hl.1 rfl (lv_room (Nat.le_of_ble_eq_true rfl)) dX12_dueDays_20 ⟨Nat.le_of_ble_eq_true rfl, Nat.le_of_ble_eq_true rfl⟩) hS (fun q _ h => hFc q h) hFc (fun u_4 t H1 locs ht hvm hr_3 hB hz1 hk1 hS => ?_)
    obtain ⟨f_5, n_6, n_7, f_8, f_9, f_10⟩ := u_4
    have hsfhr_3 : stW (VALW l9 f1 f2 f3 f4 f5) n0 n (fun _ => True) g0 g1 g4 f_8 f_9 f_10 := hr_3.2
    have hst : stW (VALW l9 f1 f2 f3 f4 f5) n0 n (fun _ => True) g0 g1 g4 f_8 f_9 f_10 := hst.tr hsfhr_3 (fun _ _ => trivial)
    have hmm : memW (VALW l9 f1 f2 f3 f4 f5) n0 n f_8 f_9 f_10 := hst.1
    have hgahr_3 : dusP l9 f1 f2 f3 f4 f5 f6 (VALW l9 f1 f2 f3 f4 f5) x3 x1 x2 ((f_5, n_6, n_7) : duS) := hr_3.1
    obtain ⟨hP1, hD1⟩ := hB
    rw [ht] at hP1
    obtain ⟨hP, hD⟩ := va_repl [(h0, .inr (9, fs0)), (fa, .inr (2, [.ref la, .ref cl, .ref wo, .ref on, .int n_6, .int n_7, .int x3])), (on, .inl (T 1, 7, .inr (.inl f_5))), (wo, .inr (8, [.ref la, .ref cl, .ref p0, .ref p1, .ref p4, .int n])), (la, .inr (5, [.int (l9 0), .int (l9 1), .int (l9 2), .int (l9 3), .int (l9 4), .int (l9 5), .int (l9 6)])), (cl, .inr (1, [.int n0, .ref c1, .ref c2, .ref c3, .ref c4, .ref c5, .ref c6, .ref c7])), (c1, .inl (T 0, 24, .inl f1)), (c2, .inl (T 0, 24, .inl f2)), (c3, .inl (T 0, 24, .inl f3)), (c4, .inl (T 0, 24, .inl f4)), (c5, .inl (T 0, 24, .inl f5)), (p0, .inl (T 1, 676, .inr (.inl f_8))), (p1, .inl (T 1, 676, .inr (.inl f_9))), (p4, .inl (T 0, 672, .inl f_10)), (c6, .inl (T 0, 24, .inl f6))] hP hD [1, 2, 3, 4, 5, 6, 7, 8, 9, 10, 11, 12, 13, 14] [1, 2, 3, 4, 5, 6, 7, 8, 9, 10, 11, 12, 13, 14] rfl (by decide +kernel) rfl rfl rfl hk1 hP1
    clear hP1 hD1 hFc
    generalize H1 = H at hP hS ⊢
    refine lv_aload_n hx hb dX12_dueDays_23 rfl (lv_at hl 0 rfl) ?_
    refine va_get (D := D) (ci := 9) (v := .ref fa) (C := RX12) (T := TX12) (N := 11) hx hb hts in_X12_dueDays_X12 hown hE.1 hP 0 rfl rfl 7 (by decide +kernel) (hts (.fieldLink RX12 52 "ClauseBook" "falling" "LClauseBook$Falling;") (List.mem_of_getElem? (i := 1) rfl)) (fun _ h9 => h9) e0_7 dX12_dueDays_24 ?_
    refine va_get (D := D) (ci := 2) (v := .int n_7) (C := RX3) (T := TX3) (N := 7) hx hb hts in_X12_dueDays_X3 hown hE.1 hP 1 rfl rfl 5 (by decide +kernel) (hts (.fieldLink RX12 256 "ClauseBook$Falling" "much" "Z") (List.mem_of_getElem? (i := 2) rfl)) (fun _ h9 => h9) rfl dX12_dueDays_27 ?_
    refine lv_if_eq (tgt := 38) hx hb dX12_dueDays_30 (by decide +kernel) (fun c_11 => ?_) (fun c_11 => ?_)
    · rw [fa_eq] at c_11
      try rw [ti_0] at c_11
      refine lv_aload_n hx hb dX12_dueDays_38 rfl (lv_at hl 0 rfl) ?_
      refine va_get (D := D) (ci := 9) (v := .ref fa) (C := RX12) (T := TX12) (N := 11) hx hb hts in_X12_dueDays_X12 hown hE.1 hP 0 rfl rfl 7 (by decide +kernel) (hts (.fieldLink RX12 52 "ClauseBook" "falling" "LClauseBook$Falling;") (List.mem_of_getElem? (i := 1) rfl)) (fun _ h9 => h9) e0_7 dX12_dueDays_39 ?_
      refine va_get (D := D) (ci := 2) (v := .int n_6) (C := RX3) (T := TX3) (N := 7) hx hb hts in_X12_dueDays_X3 hown hE.1 hP 1 rfl rfl 4 (by decide +kernel) (hts (.fieldLink RX12 262 "ClauseBook$Falling" "days" "I") (List.mem_of_getElem? (i := 3) rfl)) (fun _ h9 => h9) rfl dX12_dueDays_42 ?_
      exact W.iret hx hb hr (fun t ht hW => ⟨⟨_, (f_5, n_6, n_7, f_8, f_9, f_10, x3), rfl, ⟨(Or.inr ⟨⟨(by omega), (by omega), (by omega)⟩, ((f_5, n_6, n_7) : duS), hgahr_3, Or.inr ⟨(show (n_7 : Int32).toInt = 0 from by omega), (by first | rfl | assumption)⟩⟩), hst⟩, by rw [ht]; exact hP.sub [0, 1, 2, 3, 4, 5, 6, 7, 8, 9, 10, 11, 12, 13, 14] rfl, hD.sub [0, 1, 2, 3, 4, 5, 6, 7, 8, 9, 10, 11, 12, 13, 14] (by decide +kernel) rfl⟩, hS.F ht⟩) hS.2.2 dX12_dueDays_45
    · rw [fa_eq] at c_11
      try rw [ti_0] at c_11
      refine lv_bipush (v := (-5)) hx hb dX12_dueDays_33 (by decide +kernel) ?_
      refine lv_goto (tgt := 45) hx hb dX12_dueDays_35 (by decide +kernel) ?_
      exact W.iret hx hb hr (fun t ht hW => ⟨⟨_, (f_5, n_6, n_7, f_8, f_9, f_10, x3), rfl, ⟨(Or.inr ⟨⟨(by omega), (by omega), (by omega)⟩, ((f_5, n_6, n_7) : duS), hgahr_3, Or.inl ⟨(show ¬ (n_7 : Int32).toInt = 0 from by omega), (by decide +kernel)⟩⟩), hst⟩, by rw [ht]; exact hP.sub [0, 1, 2, 3, 4, 5, 6, 7, 8, 9, 10, 11, 12, 13, 14] rfl, hD.sub [0, 1, 2, 3, 4, 5, 6, 7, 8, 9, 10, 11, 12, 13, 14] (by decide +kernel) rfl⟩, hS.F ht⟩) hS.2.2 dX12_dueDays_45
  · refine lv_if_ne (tgt := 13) hx hb dX12_dueDays_7 (by decide +kernel) (fun c9 => absurd c9 (by decide +kernel)) (fun _ => ?_)
    refine lv_bipush (v := (-2)) hx hb dX12_dueDays_10 (by decide +kernel) ?_
    exact W.iret hx hb hr (fun t ht hW => ⟨⟨_, (fo, dy, mu, g0, g1, g4, pa), rfl, ⟨(Or.inl ⟨(fun h9 => by obtain ⟨h1, h2, h3⟩ := h9; omega), (by decide +kernel)⟩), hst⟩, by rw [ht]; exact hP.sub [0, 1, 2, 3, 4, 5, 6, 7, 8, 9, 10, 11, 12, 13, 14] rfl, hD.sub [0, 1, 2, 3, 4, 5, 6, 7, 8, 9, 10, 11, 12, 13, 14] (by decide +kernel) rfl⟩, hS.F ht⟩) hS.2.2 dX12_dueDays_12
theorem dX12_failed_0 : decode cX12_failed 0 = .ok (.aload_n 0, 1) := by decide +kernel
theorem dX12_failed_1 : decode cX12_failed 1 = .ok (.iload_n 1, 1) := by decide +kernel
theorem dX12_failed_10 : decode cX12_failed 10 = .ok (.iload 4, 2) := by decide +kernel
theorem dX12_failed_102 : decode cX12_failed 102 = .ok (.ldiv, 1) := by decide +kernel
theorem dX12_failed_103 : decode cX12_failed 103 = .ok (.lstore 10, 2) := by decide +kernel
theorem dX12_failed_105 : decode cX12_failed 105 = .ok (.lload 6, 2) := by decide +kernel
theorem dX12_failed_107 : decode cX12_failed 107 = .ok (.lload 10, 2) := by decide +kernel
theorem dX12_failed_109 : decode cX12_failed 109 = .ok (.invokestatic 274, 3) := by decide +kernel
theorem dX12_failed_112 : decode cX12_failed 112 = .ok (.ifCond .eq 11, 3) := by decide +kernel
theorem dX12_failed_115 : decode cX12_failed 115 = .ok (.lload 6, 2) := by decide +kernel
theorem dX12_failed_117 : decode cX12_failed 117 = .ok (.lload 10, 2) := by decide +kernel
theorem dX12_failed_119 : decode cX12_failed 119 = .ok (.ladd, 1) := by decide +kernel
theorem dX12_failed_12 : decode cX12_failed 12 = .ok (.invokestatic 120, 3) := by decide +kernel
theorem dX12_failed_120 : decode cX12_failed 120 = .ok (.goto 6, 3) := by decide +kernel
theorem dX12_failed_123 : decode cX12_failed 123 = .ok (.ldc2_w 200, 3) := by decide +kernel
theorem dX12_failed_126 : decode cX12_failed 126 = .ok (.lreturn, 1) := by decide +kernel
theorem dX12_failed_15 : decode cX12_failed 15 = .ok (.ifCond .eq 14, 3) := by decide +kernel
theorem dX12_failed_18 : decode cX12_failed 18 = .ok (.iload 5, 2) := by decide +kernel
theorem dX12_failed_2 : decode cX12_failed 2 = .ok (.iload_n 2, 1) := by decide +kernel
theorem dX12_failed_20 : decode cX12_failed 20 = .ok (.iconst 0, 1) := by decide +kernel
theorem dX12_failed_21 : decode cX12_failed 21 = .ok (.bipush 9, 2) := by decide +kernel
theorem dX12_failed_23 : decode cX12_failed 23 = .ok (.invokestatic 77, 3) := by decide +kernel
theorem dX12_failed_26 : decode cX12_failed 26 = .ok (.ifCond .ne 7, 3) := by decide +kernel
theorem dX12_failed_29 : decode cX12_failed 29 = .ok (.ldc2_w 183, 3) := by decide +kernel
theorem dX12_failed_3 : decode cX12_failed 3 = .ok (.iload_n 3, 1) := by decide +kernel
theorem dX12_failed_32 : decode cX12_failed 32 = .ok (.lreturn, 1) := by decide +kernel
theorem dX12_failed_33 : decode cX12_failed 33 = .ok (.aload_n 0, 1) := by decide +kernel
theorem dX12_failed_34 : decode cX12_failed 34 = .ok (.getfield 52, 3) := by decide +kernel
theorem dX12_failed_37 : decode cX12_failed 37 = .ok (.iload_n 1, 1) := by decide +kernel
theorem dX12_failed_38 : decode cX12_failed 38 = .ok (.iload_n 2, 1) := by decide +kernel
theorem dX12_failed_39 : decode cX12_failed 39 = .ok (.iload_n 3, 1) := by decide +kernel
theorem dX12_failed_4 : decode cX12_failed 4 = .ok (.invokevirtual 250, 3) := by decide +kernel
theorem dX12_failed_40 : decode cX12_failed 40 = .ok (.invokevirtual 253, 3) := by decide +kernel
theorem dX12_failed_43 : decode cX12_failed 43 = .ok (.aload_n 0, 1) := by decide +kernel
theorem dX12_failed_44 : decode cX12_failed 44 = .ok (.getfield 52, 3) := by decide +kernel
theorem dX12_failed_47 : decode cX12_failed 47 = .ok (.iconst 0, 1) := by decide +kernel
theorem dX12_failed_48 : decode cX12_failed 48 = .ok (.iload 4, 2) := by decide +kernel
theorem dX12_failed_50 : decode cX12_failed 50 = .ok (.invokevirtual 265, 3) := by decide +kernel
theorem dX12_failed_53 : decode cX12_failed 53 = .ok (.lstore 6, 2) := by decide +kernel
theorem dX12_failed_55 : decode cX12_failed 55 = .ok (.aload_n 0, 1) := by decide +kernel
theorem dX12_failed_56 : decode cX12_failed 56 = .ok (.getfield 52, 3) := by decide +kernel
theorem dX12_failed_59 : decode cX12_failed 59 = .ok (.iload 4, 2) := by decide +kernel
theorem dX12_failed_61 : decode cX12_failed 61 = .ok (.bipush 7, 2) := by decide +kernel
theorem dX12_failed_63 : decode cX12_failed 63 = .ok (.invokevirtual 265, 3) := by decide +kernel
theorem dX12_failed_66 : decode cX12_failed 66 = .ok (.lstore 8, 2) := by decide +kernel
theorem dX12_failed_68 : decode cX12_failed 68 = .ok (.aload_n 0, 1) := by decide +kernel
theorem dX12_failed_69 : decode cX12_failed 69 = .ok (.getfield 52, 3) := by decide +kernel
theorem dX12_failed_7 : decode cX12_failed 7 = .ok (.ifCond .eq 22, 3) := by decide +kernel
theorem dX12_failed_72 : decode cX12_failed 72 = .ok (.getfield 256, 3) := by decide +kernel
theorem dX12_failed_75 : decode cX12_failed 75 = .ok (.ifCond .ne 14, 3) := by decide +kernel
theorem dX12_failed_78 : decode cX12_failed 78 = .ok (.lload 8, 2) := by decide +kernel
theorem dX12_failed_80 : decode cX12_failed 80 = .ok (.iload 5, 2) := by decide +kernel
theorem dX12_failed_82 : decode cX12_failed 82 = .ok (.i2l, 1) := by decide +kernel
theorem dX12_failed_83 : decode cX12_failed 83 = .ok (.invokestatic 268, 3) := by decide +kernel
theorem dX12_failed_86 : decode cX12_failed 86 = .ok (.ifCond .ne 7, 3) := by decide +kernel
theorem dX12_failed_89 : decode cX12_failed 89 = .ok (.ldc2_w 200, 3) := by decide +kernel
theorem dX12_failed_92 : decode cX12_failed 92 = .ok (.lreturn, 1) := by decide +kernel
theorem dX12_failed_93 : decode cX12_failed 93 = .ok (.lload 8, 2) := by decide +kernel
theorem dX12_failed_95 : decode cX12_failed 95 = .ok (.iload 5, 2) := by decide +kernel
theorem dX12_failed_97 : decode cX12_failed 97 = .ok (.i2l, 1) := by decide +kernel
theorem dX12_failed_98 : decode cX12_failed 98 = .ok (.lmul, 1) := by decide +kernel
theorem dX12_failed_99 : decode cX12_failed 99 = .ok (.ldc2_w 272, 3) := by decide +kernel
set_option maxRecDepth 20000 in
theorem ggX12_failed_X11_productFits : GoodIn wsX12_failed wsX11_productFits := goodIn_r _ [126, 107, 127] rfl (by decide +kernel)
set_option maxRecDepth 20000 in
theorem ggX12_failed_X11_sumFits : GoodIn wsX12_failed wsX11_sumFits := goodIn_r _ [69] rfl (by decide +kernel)
set_option maxRecDepth 20000 in
theorem ggX12_failed_X12_isDay : GoodIn wsX12_failed wsX12_isDay := goodIn_r _ [22, 23, 18, 9, 19] rfl (by decide +kernel)
set_option maxRecDepth 20000 in
theorem ggX12_failed_X12_isHad : GoodIn wsX12_failed wsX12_isHad := goodIn_r _ [10, 11, 12, 13, 14, 15, 16, 17, 18, 9, 19, 20, 21, 22, 23, 24, 25, 26, 190, 191, 192, 193, 194, 195, 196, 197, 198, 199, 200, 208, 209, 210, 211, 212, 213, 214, 215] rfl (by decide +kernel)
set_option maxRecDepth 20000 in
theorem ggX12_failed_X12_within : GoodIn wsX12_failed wsX12_within := goodIn_r _ [19] rfl (by decide +kernel)
set_option maxRecDepth 40000 in
theorem ggX12_failed_X3_gather_0 : GoodIn wsX12_failed [.code yX3_gather cX3_gather 5 none] := goodIn_r _ [31] rfl (by decide +kernel)
set_option maxRecDepth 40000 in
theorem ggX12_failed_X3_gather_1 : GoodIn wsX12_failed wsX3_gather_r1 := goodIn_r _ [32, 33, 34, 35, 36, 37, 38, 39, 40, 30, 41, 42, 43, 44, 45, 46, 47, 48, 49, 50, 51, 52, 15, 53] rfl (by decide +kernel)
set_option maxRecDepth 40000 in
theorem ggX12_failed_X3_gather_2 : GoodIn wsX12_failed wsX3_gather_r2 := goodIn_r _ [54, 55, 56, 57, 58, 59, 60, 61, 62, 63, 64, 65, 66, 67, 68, 69, 70, 71, 72, 73, 74, 75, 76, 77] rfl (by decide +kernel)
set_option maxRecDepth 40000 in
theorem ggX12_failed_X3_gather_3 : GoodIn wsX12_failed wsX3_gather_r3 := goodIn_r _ [78, 79, 80, 81, 82, 83, 84, 85, 86, 87, 88, 89, 90, 91, 92, 93, 94, 95, 96, 97, 98, 99, 100, 101] rfl (by decide +kernel)
set_option maxRecDepth 40000 in
theorem ggX12_failed_X3_gather_4 : GoodIn wsX12_failed wsX3_gather_r4 := goodIn_r _ [102, 103, 104, 105, 106, 107, 108, 109, 110, 111, 112, 113, 114, 115, 116, 117, 118, 119, 120, 121, 122, 123, 124, 125] rfl (by decide +kernel)
set_option maxRecDepth 40000 in
theorem ggX12_failed_X3_gather_5 : GoodIn wsX12_failed wsX3_gather_r5 := goodIn_r _ [126, 127, 128, 129, 130, 131, 132, 133, 134, 135, 136, 137, 138, 139, 140, 141, 142, 143, 144, 145, 146, 147, 148, 149] rfl (by decide +kernel)
set_option maxRecDepth 40000 in
theorem ggX12_failed_X3_gather_6 : GoodIn wsX12_failed wsX3_gather_r6 := goodIn_r _ [150, 151, 152, 153, 154, 155, 156, 157, 158, 159, 160, 161, 162, 163, 164, 165, 166, 167, 168, 169, 170, 171, 172, 173] rfl (by decide +kernel)
set_option maxRecDepth 40000 in
theorem ggX12_failed_X3_gather_7 : GoodIn wsX12_failed wsX3_gather_r7 := goodIn_r _ [174, 175, 176, 177, 178, 179, 180, 181, 182, 183] rfl (by decide +kernel)
set_option maxRecDepth 40000 in
theorem ggX12_failed_X3_gather_8 : GoodIn wsX12_failed wsX30 := goodIn_r _ [201, 202, 203, 204, 205, 206, 207] rfl (by decide +kernel)
set_option maxRecDepth 40000 in
theorem ggX12_failed_X3_gather_9 : GoodIn wsX12_failed wsX20 := goodIn_r _ [208, 209, 210, 211, 212, 213, 214, 215] rfl (by decide +kernel)
set_option maxRecDepth 40000 in
theorem ggX12_failed_X3_gather_10 : GoodIn wsX12_failed wsX80 := goodIn_r _ [216, 217, 218, 219, 220, 221, 222] rfl (by decide +kernel)
set_option maxRecDepth 40000 in
theorem ggX12_failed_X3_gather_11 : GoodIn wsX12_failed wsX110 := goodIn_r _ [223, 224, 225, 226, 227, 228] rfl (by decide +kernel)
set_option maxRecDepth 40000 in
theorem ggX12_failed_X3_gather : GoodIn wsX12_failed wsX3_gather := (goodIn_app ggX12_failed_X3_gather_0 (goodIn_app (goodIn_app (goodIn_app (goodIn_app (goodIn_app ggX12_failed_X3_gather_1 (goodIn_app ggX12_failed_X3_gather_2 (goodIn_app ggX12_failed_X3_gather_3 (goodIn_app ggX12_failed_X3_gather_4 (goodIn_app ggX12_failed_X3_gather_5 (goodIn_app ggX12_failed_X3_gather_6 ggX12_failed_X3_gather_7)))))) ggX12_failed_X3_gather_8) ggX12_failed_X3_gather_9) ggX12_failed_X3_gather_10) ggX12_failed_X3_gather_11))
set_option maxRecDepth 20000 in
theorem ggX12_failed_X3_total : GoodIn wsX12_failed wsX3_total := goodIn_r _ [187, 32, 37, 66, 67, 68, 69, 201, 202, 203, 204, 205, 206, 207] rfl (by decide +kernel)
set_option maxRecDepth 20000 in
theorem gX12_failed_X11_productFits : GoodIn wsX12_failed (va_wsS RX12 268 yX11_productFits wsX11_productFits) := goodIn_app (goodIn_of _ (by decide +kernel)) ggX12_failed_X11_productFits
set_option maxRecDepth 20000 in
theorem gX12_failed_X11_sumFits : GoodIn wsX12_failed (va_wsS RX12 274 yX11_sumFits wsX11_sumFits) := goodIn_app (goodIn_of _ (by decide +kernel)) ggX12_failed_X11_sumFits
set_option maxRecDepth 20000 in
theorem gX12_failed_X12_isDay : GoodIn wsX12_failed (va_wsS RX12 120 yX12_isDay wsX12_isDay) := goodIn_app (goodIn_of _ (by decide +kernel)) ggX12_failed_X12_isDay
set_option maxRecDepth 20000 in
theorem gX12_failed_X12_isHad : GoodIn wsX12_failed (wsV RX12 250 RX12 yX12_isHad wsX12_isHad) := goodIn_app (goodIn_r _ [6, 7, 8, 9] rfl (by decide +kernel)) ggX12_failed_X12_isHad
set_option maxRecDepth 20000 in
theorem gX12_failed_X12_within : GoodIn wsX12_failed (va_wsS RX12 77 yX12_within wsX12_within) := goodIn_app (goodIn_of _ (by decide +kernel)) ggX12_failed_X12_within
set_option maxRecDepth 20000 in
theorem gX12_failed_X3_gather : GoodIn wsX12_failed (wsV RX12 253 RX3 yX3_gather wsX3_gather) := goodIn_app (goodIn_r _ [27, 28, 29, 30] rfl (by decide +kernel)) ggX12_failed_X3_gather
set_option maxRecDepth 20000 in
theorem gX12_failed_X3_total : GoodIn wsX12_failed (wsV RX12 265 RX3 yX3_total wsX3_total) := goodIn_app (goodIn_r _ [184, 185, 186, 30] rfl (by decide +kernel)) ggX12_failed_X3_total
theorem hv_X3_total : yX3_total.cls = RX3 ∧ yX3_total.cls ≠ "java/lang/invoke/MethodHandle" ∧ yX3_total.cls ≠ "java/lang/invoke/VarHandle" ∧ (parseMethodDescriptor yX3_total.desc).map (fun d => d.parameters.length) = some 2 := by decide +kernel
set_option maxRecDepth 20000 in
theorem in_X12_failed_X12 : ∀ w ∈ wsX120, w ∈ wsX12_failed := sub_r [190, 191, 192, 193, 194, 195, 196, 197, 198, 199, 200] rfl
set_option maxRecDepth 20000 in
theorem in_X12_failed_X3 : ∀ w ∈ wsX30, w ∈ wsX12_failed := sub_r [201, 202, 203, 204, 205, 206, 207] rfl
set_option maxHeartbeats 4000000 in
set_option maxRecDepth 100000 in
theorem c_X12_failed (l : Launch) (D : va_G) (T : Nat → ClassId) (ad sa av : Nat → Nat) (ta : Nat) (sz : Nat) (h0 : Nat) (fa : Nat) (fs0 : List Value) (on : Nat) (dy : Int32) (mu : Int32) (pa : Int32) (fo : Nat → Int64) (wo : Nat) (la : Nat) (cl : Nat) (p0 : Nat) (p1 : Nat) (p4 : Nat) (n : Int32) (l9 : Nat → Int32) (n0 : Int32) (c1 : Nat) (c2 : Nat) (c3 : Nat) (c4 : Nat) (c5 : Nat) (c6 : Nat) (c7 : Nat) (f1 : Nat → Int32) (f2 : Nat → Int32) (f3 : Nat → Int32) (f4 : Nat → Int32) (f5 : Nat → Int32) (g0 : Nat → Int64) (g1 : Nat → Int64) (g4 : Nat → Int32) (f6 : Nat → Int32) (x1 : Int32) (x2 : Int32) (x3 : Int32) (x4 : Int32) (x5 : Int32) (e0_4 : fs0[4]? = some (.ref cl)) (e0_7 : fs0[7]? = some (.ref fa)) (hn0 : 0 ≤ n0.toInt ∧ n0.toInt ≤ 24) (hok : okC f1 f3 f4 f5) (hmm : memW (VALW l9 f1 f2 f3 f4 f5) n0 n g0 g1 g4) (hlq : (1 ≤ (l9 4).toInt ∧ (l9 4).toInt ≤ 9) ∧ 1 ≤ (l9 6).toInt ∧ (l9 6).toInt ≤ 9) : Met l yX12_failed wsX12_failed ({ frames := 125, cells := 0, slots := 0, locals := 3987 }) (pWk [.ref h0, .int x1, .int x2, .int x3, .int x4, .int x5] D T [(h0, .inr (9, fs0)), (fa, .inr (2, [.ref la, .ref cl, .ref wo, .ref on, .int dy, .int mu, .int pa])), (on, .inl (T 1, 7, .inr (.inl fo))), (wo, .inr (8, [.ref la, .ref cl, .ref p0, .ref p1, .ref p4, .int n])), (la, .inr (5, [.int (l9 0), .int (l9 1), .int (l9 2), .int (l9 3), .int (l9 4), .int (l9 5), .int (l9 6)])), (cl, .inr (1, [.int n0, .ref c1, .ref c2, .ref c3, .ref c4, .ref c5, .ref c6, .ref c7])), (c1, .inl (T 0, 24, .inl f1)), (c2, .inl (T 0, 24, .inl f2)), (c3, .inl (T 0, 24, .inl f3)), (c4, .inl (T 0, 24, .inl f4)), (c5, .inl (T 0, 24, .inl f5)), (p0, .inl (T 1, 676, .inr (.inl g0))), (p1, .inl (T 1, 676, .inr (.inl g1))), (p4, .inl (T 0, 672, .inl g4)), (c6, .inl (T 0, 24, .inl f6))] sz ad sa av ta) (va_Ql (fun (r : Int64) (u : (Nat → Int64) × Int32 × Int32 × (Nat → Int64) × (Nat → Int64) × (Nat → Int32) × Int32) => faQ l9 f1 f2 f3 f4 f5 f6 (VALW l9 f1 f2 f3 f4 f5) n0 x1 x2 x3 x4 x5 r ∧ stW (VALW l9 f1 f2 f3 f4 f5) n0 n (fun _ => True) g0 g1 g4 u.2.2.2.1 u.2.2.2.2.1 u.2.2.2.2.2.1) (bW D (va_A [(h0, .inr (9, fs0)), (fa, .inr (2, [.ref la, .ref cl, .ref wo, .ref on, .int dy, .int mu, .int pa])), (on, .inl (T 1, 7, .inr (.inl fo))), (wo, .inr (8, [.ref la, .ref cl, .ref p0, .ref p1, .ref p4, .int n])), (la, .inr (5, [.int (l9 0), .int (l9 1), .int (l9 2), .int (l9 3), .int (l9 4), .int (l9 5), .int (l9 6)])), (cl, .inr (1, [.int n0, .ref c1, .ref c2, .ref c3, .ref c4, .ref c5, .ref c6, .ref c7])), (c1, .inl (T 0, 24, .inl f1)), (c2, .inl (T 0, 24, .inl f2)), (c3, .inl (T 0, 24, .inl f3)), (c4, .inl (T 0, 24, .inl f4)), (c5, .inl (T 0, 24, .inl f5)), (p0, .inl (T 1, 676, .inr (.inl g0))), (p1, .inl (T 1, 676, .inr (.inl g1))), (p4, .inl (T 0, 672, .inl g4)), (c6, .inl (T 0, 24, .inl f6))] sz) (fun (u : (Nat → Int64) × Int32 × Int32 × (Nat → Int64) × (Nat → Int64) × (Nat → Int32) × Int32) => [(h0, .inr (9, fs0)), (fa, .inr (2, [.ref la, .ref cl, .ref wo, .ref on, .int u.2.1, .int u.2.2.1, .int u.2.2.2.2.2.2])), (on, .inl (T 1, 7, .inr (.inl u.1))), (wo, .inr (8, [.ref la, .ref cl, .ref p0, .ref p1, .ref p4, .int n])), (la, .inr (5, [.int (l9 0), .int (l9 1), .int (l9 2), .int (l9 3), .int (l9 4), .int (l9 5), .int (l9 6)])), (cl, .inr (1, [.int n0, .ref c1, .ref c2, .ref c3, .ref c4, .ref c5, .ref c6, .ref c7])), (c1, .inl (T 0, 24, .inl f1)), (c2, .inl (T 0, 24, .inl f2)), (c3, .inl (T 0, 24, .inl f3)), (c4, .inl (T 0, 24, .inl f4)), (c5, .inl (T 0, 24, .inl f5)), (p0, .inl (T 1, 676, .inr (.inl u.2.2.2.1))), (p1, .inl (T 1, 676, .inr (.inl u.2.2.2.2.1))), (p4, .inl (T 0, 672, .inl u.2.2.2.2.2.1)), (c6, .inl (T 0, 24, .inl f6))])) (va_A [(h0, .inr (9, fs0)), (fa, .inr (2, [.ref la, .ref cl, .ref wo, .ref on, .int dy, .int mu, .int pa])), (on, .inl (T 1, 7, .inr (.inl fo))), (wo, .inr (8, [.ref la, .ref cl, .ref p0, .ref p1, .ref p4, .int n])), (la, .inr (5, [.int (l9 0), .int (l9 1), .int (l9 2), .int (l9 3), .int (l9 4), .int (l9 5), .int (l9 6)])), (cl, .inr (1, [.int n0, .ref c1, .ref c2, .ref c3, .ref c4, .ref c5, .ref c6, .ref c7])), (c1, .inl (T 0, 24, .inl f1)), (c2, .inl (T 0, 24, .inl f2)), (c3, .inl (T 0, 24, .inl f3)), (c4, .inl (T 0, 24, .inl f4)), (c5, .inl (T 0, 24, .inl f5)), (p0, .inl (T 1, 676, .inr (.inl g0))), (p1, .inl (T 1, 676, .inr (.inl g1))), (p4, .inl (T 0, 672, .inl g4)), (c6, .inl (T 0, 24, .inl f6))] sz)) 0 0 (va_A [(h0, .inr (9, fs0)), (fa, .inr (2, [.ref la, .ref cl, .ref wo, .ref on, .int dy, .int mu, .int pa])), (on, .inl (T 1, 7, .inr (.inl fo))), (wo, .inr (8, [.ref la, .ref cl, .ref p0, .ref p1, .ref p4, .int n])), (la, .inr (5, [.int (l9 0), .int (l9 1), .int (l9 2), .int (l9 3), .int (l9 4), .int (l9 5), .int (l9 6)])), (cl, .inr (1, [.int n0, .ref c1, .ref c2, .ref c3, .ref c4, .ref c5, .ref c6, .ref c7])), (c1, .inl (T 0, 24, .inl f1)), (c2, .inl (T 0, 24, .inl f2)), (c3, .inl (T 0, 24, .inl f3)), (c4, .inl (T 0, 24, .inl f4)), (c5, .inl (T 0, 24, .inl f5)), (p0, .inl (T 1, 676, .inr (.inl g0))), (p1, .inl (T 1, 676, .inr (.inl g1))), (p4, .inl (T 0, 672, .inl g4)), (c6, .inl (T 0, 24, .inl f6))] sz) := by
  refine Met.ofW (cc := cX12_failed) (maxL := 12) (ret := (some .long)) (by decide +kernel) rfl ?_
  intro p e s m args below meth c s₁ B hml hv
  obtain ⟨rfl, hsz, hP, hE, hD0, hV⟩ := hv
  have hx := B.exec
  have hb := B.bytes
  have hr := B.returns
  have hts := atoms_spec (ws := wsX12_failed) B.pre
  have hown : s.vm.findClass RX12 = some m.cls := findClass_of_methodNamed B.named
  have hlocks := B.notSynchronized
  subst hsz
  have hD := hD0.self (sz := s.heap.size)
  generalize hAe : va_A [(h0, .inr (9, fs0)), (fa, .inr (2, [.ref la, .ref cl, .ref wo, .ref on, .int dy, .int mu, .int pa])), (on, .inl (T 1, 7, .inr (.inl fo))), (wo, .inr (8, [.ref la, .ref cl, .ref p0, .ref p1, .ref p4, .int n])), (la, .inr (5, [.int (l9 0), .int (l9 1), .int (l9 2), .int (l9 3), .int (l9 4), .int (l9 5), .int (l9 6)])), (cl, .inr (1, [.int n0, .ref c1, .ref c2, .ref c3, .ref c4, .ref c5, .ref c6, .ref c7])), (c1, .inl (T 0, 24, .inl f1)), (c2, .inl (T 0, 24, .inl f2)), (c3, .inl (T 0, 24, .inl f3)), (c4, .inl (T 0, 24, .inl f4)), (c5, .inl (T 0, 24, .inl f5)), (p0, .inl (T 1, 676, .inr (.inl g0))), (p1, .inl (T 1, 676, .inr (.inl g1))), (p4, .inl (T 0, 672, .inl g4)), (c6, .inl (T 0, 24, .inl f6))] s.heap.size = A at hD hV ⊢
  have hA : ∀ q : Nat, s.heap.size ≤ q → A q := fun q h => by rw [← hAe]; exact Or.inr h
  have hS : va_S A s.heap s.heap [] := va_S.rf
  have hP : va_P D vwCl [(h0, .inr (9, fs0)), (fa, .inr (2, [.ref la, .ref cl, .ref wo, .ref on, .int dy, .int mu, .int pa])), (on, .inl (T 1, 7, .inr (.inl fo))), (wo, .inr (8, [.ref la, .ref cl, .ref p0, .ref p1, .ref p4, .int n])), (la, .inr (5, [.int (l9 0), .int (l9 1), .int (l9 2), .int (l9 3), .int (l9 4), .int (l9 5), .int (l9 6)])), (cl, .inr (1, [.int n0, .ref c1, .ref c2, .ref c3, .ref c4, .ref c5, .ref c6, .ref c7])), (c1, .inl (T 0, 24, .inl f1)), (c2, .inl (T 0, 24, .inl f2)), (c3, .inl (T 0, 24, .inl f3)), (c4, .inl (T 0, 24, .inl f4)), (c5, .inl (T 0, 24, .inl f5)), (p0, .inl (T 1, 676, .inr (.inl g0))), (p1, .inl (T 1, 676, .inr (.inl g1))), (p4, .inl (T 0, 672, .inl g4)), (c6, .inl (T 0, 24, .inl f6))] s.heap := hP
  have hl := lv_entry ([.ref h0, .int x1, .int x2, .int x3, .int x4, .int x5]) (n := 12) (Nat.le_of_ble_eq_true rfl)
  rw [lg_entry_eq]
  generalize (lg_sl ([.ref h0, .int x1, .int x2, .int x3, .int x4, .int x5]) ++ List.replicate (12 - (lg_sl ([.ref h0, .int x1, .int x2, .int x3, .int x4, .int x5])).length) Slot.unset).toArray = ls at hl ⊢
  have hl : lv_has ls 12 [(0, .ref h0), (1, .int x1), (2, .int x2), (3, .int x3), (4, .int x4), (5, .int x5)] := hl
  clear hD0
  have hst : stW (VALW l9 f1 f2 f3 f4 f5) n0 n (fun _ => True) g0 g1 g4 g0 g1 g4 := stW_rf hmm
  refine lv_aload_n hx hb dX12_failed_0 rfl (lv_at hl 0 rfl) ?_
  refine lv_iload_n hx hb dX12_failed_1 rfl (lv_at hl 1 rfl) ?_
  refine lv_iload_n hx hb dX12_failed_2 rfl (lv_at hl 2 rfl) ?_
  refine lv_iload_n hx hb dX12_failed_3 rfl (lv_at hl 3 rfl) ?_
  refine vp_callSi (W.runV (As := [.int x1, .int x2, .int x3]) (rest := []) ⟨hx, hb, hml, hown, hts⟩ (c_X12_isHad l D T h0 fs0 cl [.int n0, .ref c1, .ref c2, .ref c3, .ref c4, .ref c5, .ref c6, .ref c7] x1 x2 x3 n0 e0_4 rfl (by omega)) (cwV 3 hts gX12_failed_X12_isHad rfl rfl rfl hv_X12_isHad ⟨Nat.le_of_ble_eq_true rfl, Nat.le_of_ble_eq_true rfl⟩) (pR_V (q := (RX12, TX12, 11)) (ci := 9) (q0 := 0) hP hE rfl rfl [0, 5] rfl) rfl rfl hl.1 rfl (lv_room (Nat.le_of_ble_eq_true rfl)) dX12_failed_4 ⟨Nat.le_of_ble_eq_true rfl, Nat.le_of_ble_eq_true rfl⟩) (fun r_1 hr_1 => ?_)
  rcases bool_post hr_1 with ⟨c_2, rfl⟩ | ⟨c_2, rfl⟩
  · refine lv_if_eq (tgt := 29) hx hb dX12_failed_7 (by decide +kernel) (fun c9 => absurd c9 (by decide +kernel)) (fun _ => ?_)
    refine lv_iload hx hb dX12_failed_10 (lv_at hl 4 rfl) ?_
    refine vp_callSi (W.runS (As := [.int x4]) (rest := []) ⟨hx, hb, hml, hown, hts⟩ (c_X12_isDay l D T x4) (va_cwS 1 hts gX12_failed_X12_isDay rfl rfl rfl hs_X12_isDay ⟨Nat.le_of_ble_eq_true rfl, Nat.le_of_ble_eq_true rfl⟩) (pR_S hP hE [] rfl) rfl rfl hl.1 rfl (lv_room (Nat.le_of_ble_eq_true rfl)) dX12_failed_12 ⟨Nat.le_of_ble_eq_true rfl, Nat.le_of_ble_eq_true rfl⟩) (fun r_3 hr_3 => ?_)
    rcases bool_post hr_3 with ⟨c_4, rfl⟩ | ⟨c_4, rfl⟩
    · refine lv_if_eq (tgt := 29) hx hb dX12_failed_15 (by decide +kernel) (fun c9 => absurd c9 (by decide +kernel)) (fun _ => ?_)
      refine lv_iload hx hb dX12_failed_18 (lv_at hl 5 rfl) ?_
      refine lv_iconst (v := 0) hx hb dX12_failed_20 (by decide +kernel) ?_
      refine lv_bipush (v := 9) hx hb dX12_failed_21 (by decide +kernel) ?_
      refine vp_callSi (W.runS (As := [.int x5, .int 0, .int 9]) (rest := []) ⟨hx, hb, hml, hown, hts⟩ (c_X12_within l D T x5 0 9 0 9 (by decide +kernel) (by decide +kernel)) (va_cwS 3 hts gX12_failed_X12_within rfl rfl rfl hs_X12_within ⟨Nat.le_of_ble_eq_true rfl, Nat.le_of_ble_eq_true rfl⟩) (pR_S hP hE [] rfl) rfl rfl hl.1 rfl (lv_room (Nat.le_of_ble_eq_true rfl)) dX12_failed_23 ⟨Nat.le_of_ble_eq_true rfl, Nat.le_of_ble_eq_true rfl⟩) (fun r_5 hr_5 => ?_)
      rcases bool_post hr_5 with ⟨c_6, rfl⟩ | ⟨c_6, rfl⟩
      · refine lv_if_ne (tgt := 33) hx hb dX12_failed_26 (by decide +kernel) (fun _ => ?_) (fun c9 => absurd c9 (by decide +kernel))
        refine lv_aload_n hx hb dX12_failed_33 rfl (lv_at hl 0 rfl) ?_
        refine va_get (D := D) (ci := 9) (v := .ref fa) (C := RX12) (T := TX12) (N := 11) hx hb hts in_X12_failed_X12 hown hE.1 hP 0 rfl rfl 7 (by decide +kernel) (hts (.fieldLink RX12 52 "ClauseBook" "falling" "LClauseBook$Falling;") (List.mem_of_getElem? (i := 2) rfl)) (fun _ h9 => h9) e0_7 dX12_failed_34 ?_
        refine lv_iload_n hx hb dX12_failed_37 rfl (lv_at hl 1 rfl) ?_
        refine lv_iload_n hx hb dX12_failed_38 rfl (lv_at hl 2 rfl) ?_
        refine lv_iload_n hx hb dX12_failed_39 rfl (lv_at hl 3 rfl) ?_
        have hFc := va_free (wc := [(fa, .inr (2, [.ref la, .ref cl, .ref wo, .ref on, .int dy, .int mu, .int pa])), (on, .inl (T 1, 7, .inr (.inl fo))), (wo, .inr (8, [.ref la, .ref cl, .ref p0, .ref p1, .ref p4, .int n])), (la, .inr (5, [.int (l9 0), .int (l9 1), .int (l9 2), .int (l9 3), .int (l9 4), .int (l9 5), .int (l9 6)])), (cl, .inr (1, [.int n0, .ref c1, .ref c2, .ref c3, .ref c4, .ref c5, .ref c6, .ref c7])), (c1, .inl (T 0, 24, .inl f1)), (c2, .inl (T 0, 24, .inl f2)), (c3, .inl (T 0, 24, .inl f3)), (c4, .inl (T 0, 24, .inl f4)), (c5, .inl (T 0, 24, .inl f5)), (p0, .inl (T 1, 676, .inr (.inl g0))), (p1, .inl (T 1, 676, .inr (.inl g1))), (p4, .inl (T 0, 672, .inl g4)), (c6, .inl (T 0, 24, .inl f6))]) hD hS hA [1, 2, 3, 4, 5, 6, 7, 8, 9, 10, 11, 12, 13, 14] rfl
        refine va_callv (va_runV (As := [.int x1, .int x2, .int x3]) (rest := []) ⟨hx, hb, hml, hown, hts⟩ (c_X3_gather l D T ad sa av ta _ fa on dy mu pa fo wo la cl p0 p1 p4 n l9 n0 c1 c2 c3 c4 c5 c6 c7 f1 f2 f3 f4 f5 g0 g1 g4 f6 x1 x2 x3 (by omega) (by omega) (by omega) hok (by omega) hmm hlq) (cwV 3 hts gX12_failed_X3_gather rfl rfl rfl hv_X3_gather ⟨Nat.le_of_ble_eq_true rfl, Nat.le_of_ble_eq_true rfl⟩) (pWk_V (q := (RX3, TX3, 7)) (ci := 2) (q0 := 1) hP hE hD hV hS hFc rfl rfl [1, 2, 3, 4, 5, 6, 7, 8, 9, 10, 11, 12, 13, 14] (by decide +kernel) rfl rfl) rfl rfl hl.1 rfl (lv_room (Nat.le_of_ble_eq_true rfl)) dX12_failed_40 ⟨Nat.le_of_ble_eq_true rfl, Nat.le_of_ble_eq_true rfl⟩) hS (fun q _ h => hFc q h) hFc (fun u_8 t H1 locs ht hvm hr_7 hB hz1 hk1 hS => ?_)
        obtain ⟨f_9, n_10, n_11, f_12, f_13, f_14⟩ := u_8
        have hsfhr_7 : stW (VALW l9 f1 f2 f3 f4 f5) n0 n (fun _ => True) g0 g1 g4 f_12 f_13 f_14 := hr_7.2
        have hst : stW (VALW l9 f1 f2 f3 f4 f5) n0 n (fun _ => True) g0 g1 g4 f_12 f_13 f_14 := hst.tr hsfhr_7 (fun _ _ => trivial)
        have hmm : memW (VALW l9 f1 f2 f3 f4 f5) n0 n f_12 f_13 f_14 := hst.1
        have hgahr_7 : dusP l9 f1 f2 f3 f4 f5 f6 (VALW l9 f1 f2 f3 f4 f5) x3 x1 x2 ((f_9, n_10, n_11) : duS) := hr_7.1
        obtain ⟨hP1, hD1⟩ := hB
        rw [ht] at hP1
        obtain ⟨hP, hD⟩ := va_repl [(h0, .inr (9, fs0)), (fa, .inr (2, [.ref la, .ref cl, .ref wo, .ref on, .int n_10, .int n_11, .int x3])), (on, .inl (T 1, 7, .inr (.inl f_9))), (wo, .inr (8, [.ref la, .ref cl, .ref p0, .ref p1, .ref p4, .int n])), (la, .inr (5, [.int (l9 0), .int (l9 1), .int (l9 2), .int (l9 3), .int (l9 4), .int (l9 5), .int (l9 6)])), (cl, .inr (1, [.int n0, .ref c1, .ref c2, .ref c3, .ref c4, .ref c5, .ref c6, .ref c7])), (c1, .inl (T 0, 24, .inl f1)), (c2, .inl (T 0, 24, .inl f2)), (c3, .inl (T 0, 24, .inl f3)), (c4, .inl (T 0, 24, .inl f4)), (c5, .inl (T 0, 24, .inl f5)), (p0, .inl (T 1, 676, .inr (.inl f_12))), (p1, .inl (T 1, 676, .inr (.inl f_13))), (p4, .inl (T 0, 672, .inl f_14)), (c6, .inl (T 0, 24, .inl f6))] hP hD [1, 2, 3, 4, 5, 6, 7, 8, 9, 10, 11, 12, 13, 14] [1, 2, 3, 4, 5, 6, 7, 8, 9, 10, 11, 12, 13, 14] rfl (by decide +kernel) rfl rfl rfl hk1 hP1
        clear hP1 hD1 hFc
        generalize H1 = H at hP hS ⊢
        refine lv_aload_n hx hb dX12_failed_43 rfl (lv_at hl 0 rfl) ?_
        refine va_get (D := D) (ci := 9) (v := .ref fa) (C := RX12) (T := TX12) (N := 11) hx hb hts in_X12_failed_X12 hown hE.1 hP 0 rfl rfl 7 (by decide +kernel) (hts (.fieldLink RX12 52 "ClauseBook" "falling" "LClauseBook$Falling;") (List.mem_of_getElem? (i := 2) rfl)) (fun _ h9 => h9) e0_7 dX12_failed_44 ?_
        refine lv_iconst (v := 0) hx hb dX12_failed_47 (by decide +kernel) ?_
        refine lv_iload hx hb dX12_failed_48 (lv_at hl 4 rfl) ?_
        have hFc := va_free (wc := [(fa, .inr (2, [.ref la, .ref cl, .ref wo, .ref on, .int n_10, .int n_11, .int x3])), (on, .inl (T 1, 7, .inr (.inl f_9)))]) hD hS hA [1, 2] rfl
        refine va_calll (va_runV (As := [.int 0, .int x4]) (rest := []) ⟨hx, hb, hml, hown, hts⟩ (c_X3_total l D T _ fa on (.ref la) (.ref cl) (.ref wo) n_10 n_11 x3 f_9 0 x4 (by first | (simp only [ti_0]; omega) | (simp only [ti_7]; omega) | omega)) (cwV 2 hts gX12_failed_X3_total rfl rfl rfl hv_X3_total ⟨Nat.le_of_ble_eq_true rfl, Nat.le_of_ble_eq_true rfl⟩) (pW_V (q := (RX3, TX3, 7)) (ci := 2) (q0 := 1) hP hE hD rfl rfl [1, 2] (by decide +kernel) rfl rfl) rfl rfl hl.1 rfl (lv_room (Nat.le_of_ble_eq_true rfl)) dX12_failed_50 ⟨Nat.le_of_ble_eq_true rfl, Nat.le_of_ble_eq_true rfl⟩) hS (fun q _ h => hFc q h) hFc (fun r_15 u_16 t H1 locs ht hvm hr_15 hB hz1 hk1 hS => ?_)
        have htt_r_15 : totP f_9 (0 : Int32).toNatClampNeg (x4.toNatClampNeg - (0 : Int32).toNatClampNeg) r_15 n_11 u_16 := hr_15
        obtain ⟨hP1, hD1⟩ := hB
        rw [ht] at hP1
        obtain ⟨hP, hD⟩ := va_repl [(h0, .inr (9, fs0)), (fa, .inr (2, [.ref la, .ref cl, .ref wo, .ref on, .int n_10, .int u_16, .int x3])), (on, .inl (T 1, 7, .inr (.inl f_9))), (wo, .inr (8, [.ref la, .ref cl, .ref p0, .ref p1, .ref p4, .int n])), (la, .inr (5, [.int (l9 0), .int (l9 1), .int (l9 2), .int (l9 3), .int (l9 4), .int (l9 5), .int (l9 6)])), (cl, .inr (1, [.int n0, .ref c1, .ref c2, .ref c3, .ref c4, .ref c5, .ref c6, .ref c7])), (c1, .inl (T 0, 24, .inl f1)), (c2, .inl (T 0, 24, .inl f2)), (c3, .inl (T 0, 24, .inl f3)), (c4, .inl (T 0, 24, .inl f4)), (c5, .inl (T 0, 24, .inl f5)), (p0, .inl (T 1, 676, .inr (.inl f_12))), (p1, .inl (T 1, 676, .inr (.inl f_13))), (p4, .inl (T 0, 672, .inl f_14)), (c6, .inl (T 0, 24, .inl f6))] hP hD [1, 2] [1, 2] rfl (by decide +kernel) rfl rfl rfl hk1 hP1
        clear hP1 hD1 hFc
        generalize H1 = H at hP hS ⊢
        refine lv_lstore (lv' := [(6, .long r_15), (0, .ref h0), (1, .int x1), (2, .int x2), (3, .int x3), (4, .int x4), (5, .int x5)]) hx hb dX12_failed_53 hl (by decide +kernel) rfl (fun ls hl => ?_)
        refine lv_aload_n hx hb dX12_failed_55 rfl (lv_at hl 1 rfl) ?_
        refine va_get (D := D) (ci := 9) (v := .ref fa) (C := RX12) (T := TX12) (N := 11) hx hb hts in_X12_failed_X12 hown hE.1 hP 0 rfl rfl 7 (by decide +kernel) (hts (.fieldLink RX12 52 "ClauseBook" "falling" "LClauseBook$Falling;") (List.mem_of_getElem? (i := 2) rfl)) (fun _ h9 => h9) e0_7 dX12_failed_56 ?_
        refine lv_iload hx hb dX12_failed_59 (lv_at hl 5 rfl) ?_
        refine lv_bipush (v := 7) hx hb dX12_failed_61 (by decide +kernel) ?_
        have hFc := va_free (wc := [(fa, .inr (2, [.ref la, .ref cl, .ref wo, .ref on, .int n_10, .int u_16, .int x3])), (on, .inl (T 1, 7, .inr (.inl f_9)))]) hD hS hA [1, 2] rfl
        refine va_calll (va_runV (As := [.int x4, .int 7]) (rest := []) ⟨hx, hb, hml, hown, hts⟩ (c_X3_total l D T _ fa on (.ref la) (.ref cl) (.ref wo) n_10 u_16 x3 f_9 x4 7 (by first | (simp only [ti_0]; omega) | (simp only [ti_7]; omega) | omega)) (cwV 2 hts gX12_failed_X3_total rfl rfl rfl hv_X3_total ⟨Nat.le_of_ble_eq_true rfl, Nat.le_of_ble_eq_true rfl⟩) (pW_V (q := (RX3, TX3, 7)) (ci := 2) (q0 := 1) hP hE hD rfl rfl [1, 2] (by decide +kernel) rfl rfl) rfl rfl hl.1 rfl (lv_room (Nat.le_of_ble_eq_true rfl)) dX12_failed_63 ⟨Nat.le_of_ble_eq_true rfl, Nat.le_of_ble_eq_true rfl⟩) hS (fun q _ h => hFc q h) hFc (fun r_17 u_18 t H1 locs ht hvm hr_17 hB hz1 hk1 hS => ?_)
        have htt_r_17 : totP f_9 x4.toNatClampNeg ((7 : Int32).toNatClampNeg - x4.toNatClampNeg) r_17 u_16 u_18 := hr_17
        obtain ⟨hP1, hD1⟩ := hB
        rw [ht] at hP1
        obtain ⟨hP, hD⟩ := va_repl [(h0, .inr (9, fs0)), (fa, .inr (2, [.ref la, .ref cl, .ref wo, .ref on, .int n_10, .int u_18, .int x3])), (on, .inl (T 1, 7, .inr (.inl f_9))), (wo, .inr (8, [.ref la, .ref cl, .ref p0, .ref p1, .ref p4, .int n])), (la, .inr (5, [.int (l9 0), .int (l9 1), .int (l9 2), .int (l9 3), .int (l9 4), .int (l9 5), .int (l9 6)])), (cl, .inr (1, [.int n0, .ref c1, .ref c2, .ref c3, .ref c4, .ref c5, .ref c6, .ref c7])), (c1, .inl (T 0, 24, .inl f1)), (c2, .inl (T 0, 24, .inl f2)), (c3, .inl (T 0, 24, .inl f3)), (c4, .inl (T 0, 24, .inl f4)), (c5, .inl (T 0, 24, .inl f5)), (p0, .inl (T 1, 676, .inr (.inl f_12))), (p1, .inl (T 1, 676, .inr (.inl f_13))), (p4, .inl (T 0, 672, .inl f_14)), (c6, .inl (T 0, 24, .inl f6))] hP hD [1, 2] [1, 2] rfl (by decide +kernel) rfl rfl rfl hk1 hP1
        clear hP1 hD1 hFc
        generalize H1 = H at hP hS ⊢
        refine lv_lstore (lv' := [(8, .long r_17), (6, .long r_15), (0, .ref h0), (1, .int x1), (2, .int x2), (3, .int x3), (4, .int x4), (5, .int x5)]) hx hb dX12_failed_66 hl (by decide +kernel) rfl (fun ls hl => ?_)
        refine lv_aload_n hx hb dX12_failed_68 rfl (lv_at hl 2 rfl) ?_
        refine va_get (D := D) (ci := 9) (v := .ref fa) (C := RX12) (T := TX12) (N := 11) hx hb hts in_X12_failed_X12 hown hE.1 hP 0 rfl rfl 7 (by decide +kernel) (hts (.fieldLink RX12 52 "ClauseBook" "falling" "LClauseBook$Falling;") (List.mem_of_getElem? (i := 2) rfl)) (fun _ h9 => h9) e0_7 dX12_failed_69 ?_
        refine va_get (D := D) (ci := 2) (v := .int u_18) (C := RX3) (T := TX3) (N := 7) hx hb hts in_X12_failed_X3 hown hE.1 hP 1 rfl rfl 5 (by decide +kernel) (hts (.fieldLink RX12 256 "ClauseBook$Falling" "much" "Z") (List.mem_of_getElem? (i := 3) rfl)) (fun _ h9 => h9) rfl dX12_failed_72 ?_
        refine lv_if_ne (tgt := 89) hx hb dX12_failed_75 (by decide +kernel) (fun c_19 => ?_) (fun c_19 => ?_)
        · rw [fa_eq] at c_19
          try rw [ti_0] at c_19
          refine lv_ldc2 (v := (-4611686018427387909)) hx hb hown (hts (.constantLong RX12 200 (-4611686018427387909)) (List.mem_of_getElem? (i := 4) rfl)) dX12_failed_89 ?_
          exact W.lret hx hb hr (fun t ht hW => ⟨⟨_, (f_9, n_10, u_18, f_12, f_13, f_14, x3), rfl, ⟨(Or.inr ⟨⟨⟨⟨(by omega), (by omega), (by omega)⟩, (by omega), (by omega)⟩, (by omega), (by omega)⟩, ((f_9, n_10, n_11) : duS), hgahr_7, fs_mu (u := ((f_9, n_10, n_11) : duS)) (tot_a htt_r_15) (tot_b htt_r_17) (by first | exact Or.inl (by omega) | exact Or.inr (by assumption)) (by decide +kernel)⟩), hst⟩, by rw [ht]; exact hP.sub [0, 1, 2, 3, 4, 5, 6, 7, 8, 9, 10, 11, 12, 13, 14] rfl, hD.sub [0, 1, 2, 3, 4, 5, 6, 7, 8, 9, 10, 11, 12, 13, 14] (by decide +kernel) rfl⟩, hS.F ht⟩) hS.2.2 dX12_failed_92
        · rw [fa_eq] at c_19
          try rw [ti_0] at c_19
          refine lv_lload hx hb dX12_failed_78 (lv_at hl 0 rfl) ?_
          refine lv_iload hx hb dX12_failed_80 (lv_at hl 7 rfl) ?_
          refine lv_i2l hx hb dX12_failed_82 rfl ?_
          refine vp_callSi (W.runS (As := [.long r_17, .long (x5.toInt64)]) (rest := []) ⟨hx, hb, hml, hown, hts⟩ (c_X11_productFits l D T r_17 (x5.toInt64)) (va_cwS 2 hts gX12_failed_X11_productFits rfl rfl rfl hs_X11_productFits ⟨Nat.le_of_ble_eq_true rfl, Nat.le_of_ble_eq_true rfl⟩) (pR_S hP hE [] rfl) rfl rfl hl.1 rfl (lv_room (Nat.le_of_ble_eq_true rfl)) dX12_failed_83 ⟨Nat.le_of_ble_eq_true rfl, Nat.le_of_ble_eq_true rfl⟩) (fun r_20 hr_20 => ?_)
          rcases bool_post hr_20 with ⟨c_21, rfl⟩ | ⟨c_21, rfl⟩
          · refine lv_if_ne (tgt := 93) hx hb dX12_failed_86 (by decide +kernel) (fun _ => ?_) (fun c9 => absurd c9 (by decide +kernel))
            refine lv_lload hx hb dX12_failed_93 (lv_at hl 0 rfl) ?_
            refine lv_iload hx hb dX12_failed_95 (lv_at hl 7 rfl) ?_
            refine lv_i2l hx hb dX12_failed_97 rfl ?_
            refine lv_lmul hx hb dX12_failed_98 ?_
            refine lv_ldc2 (v := 9) hx hb hown (hts (.constantLong RX12 272 (9)) (List.mem_of_getElem? (i := 5) rfl)) dX12_failed_99 ?_
            refine lv_ldiv hx hb dX12_failed_102 (by decide +kernel) ?_
            refine lv_topl (fun z_22 ez_22 => ?_)
            refine lv_lstore (lv' := [(10, .long z_22), (8, .long r_17), (6, .long r_15), (0, .ref h0), (1, .int x1), (2, .int x2), (3, .int x3), (4, .int x4), (5, .int x5)]) hx hb dX12_failed_103 hl (by decide +kernel) rfl (fun ls hl => ?_)
            refine lv_lload hx hb dX12_failed_105 (lv_at hl 2 rfl) ?_
            refine lv_lload hx hb dX12_failed_107 (lv_at hl 0 rfl) ?_
            refine vp_callSi (W.runS (As := [.long r_15, .long z_22]) (rest := []) ⟨hx, hb, hml, hown, hts⟩ (c_X11_sumFits l D T r_15 z_22) (va_cwS 2 hts gX12_failed_X11_sumFits rfl rfl rfl hs_X11_sumFits ⟨Nat.le_of_ble_eq_true rfl, Nat.le_of_ble_eq_true rfl⟩) (pR_S hP hE [] rfl) rfl rfl hl.1 rfl (lv_room (Nat.le_of_ble_eq_true rfl)) dX12_failed_109 ⟨Nat.le_of_ble_eq_true rfl, Nat.le_of_ble_eq_true rfl⟩) (fun r_23 hr_23 => ?_)
            rcases bool_post hr_23 with ⟨c_24, rfl⟩ | ⟨c_24, rfl⟩
            · refine lv_if_eq (tgt := 123) hx hb dX12_failed_112 (by decide +kernel) (fun c9 => absurd c9 (by decide +kernel)) (fun _ => ?_)
              refine lv_lload hx hb dX12_failed_115 (lv_at hl 2 rfl) ?_
              refine lv_lload hx hb dX12_failed_117 (lv_at hl 0 rfl) ?_
              refine lv_ladd hx hb dX12_failed_119 ?_
              refine lv_goto (tgt := 126) hx hb dX12_failed_120 (by decide +kernel) ?_
              exact W.lret hx hb hr (fun t ht hW => ⟨⟨_, (f_9, n_10, u_18, f_12, f_13, f_14, x3), rfl, ⟨(Or.inr ⟨⟨⟨⟨(by omega), (by omega), (by omega)⟩, (by omega), (by omega)⟩, (by omega), (by omega)⟩, ((f_9, n_10, n_11) : duS), hgahr_7, fs_ok (u := ((f_9, n_10, n_11) : duS)) (tot_a htt_r_15) (tot_b htt_r_17) (show (u_18 : Int32).toInt = 0 from by omega) (by assumption) ez_22 (by assumption)⟩), hst⟩, by rw [ht]; exact hP.sub [0, 1, 2, 3, 4, 5, 6, 7, 8, 9, 10, 11, 12, 13, 14] rfl, hD.sub [0, 1, 2, 3, 4, 5, 6, 7, 8, 9, 10, 11, 12, 13, 14] (by decide +kernel) rfl⟩, hS.F ht⟩) hS.2.2 dX12_failed_126
            · refine lv_if_eq (tgt := 123) hx hb dX12_failed_112 (by decide +kernel) (fun _ => ?_) (fun c9 => absurd c9 (by decide +kernel))
              refine lv_ldc2 (v := (-4611686018427387909)) hx hb hown (hts (.constantLong RX12 200 (-4611686018427387909)) (List.mem_of_getElem? (i := 4) rfl)) dX12_failed_123 ?_
              exact W.lret hx hb hr (fun t ht hW => ⟨⟨_, (f_9, n_10, u_18, f_12, f_13, f_14, x3), rfl, ⟨(Or.inr ⟨⟨⟨⟨(by omega), (by omega), (by omega)⟩, (by omega), (by omega)⟩, (by omega), (by omega)⟩, ((f_9, n_10, n_11) : duS), hgahr_7, fs_no (u := ((f_9, n_10, n_11) : duS)) (tot_a htt_r_15) (tot_b htt_r_17) ez_22 (by assumption) (by decide +kernel)⟩), hst⟩, by rw [ht]; exact hP.sub [0, 1, 2, 3, 4, 5, 6, 7, 8, 9, 10, 11, 12, 13, 14] rfl, hD.sub [0, 1, 2, 3, 4, 5, 6, 7, 8, 9, 10, 11, 12, 13, 14] (by decide +kernel) rfl⟩, hS.F ht⟩) hS.2.2 dX12_failed_126
          · refine lv_if_ne (tgt := 93) hx hb dX12_failed_86 (by decide +kernel) (fun c9 => absurd c9 (by decide +kernel)) (fun _ => ?_)
            refine lv_ldc2 (v := (-4611686018427387909)) hx hb hown (hts (.constantLong RX12 200 (-4611686018427387909)) (List.mem_of_getElem? (i := 4) rfl)) dX12_failed_89 ?_
            exact W.lret hx hb hr (fun t ht hW => ⟨⟨_, (f_9, n_10, u_18, f_12, f_13, f_14, x3), rfl, ⟨(Or.inr ⟨⟨⟨⟨(by omega), (by omega), (by omega)⟩, (by omega), (by omega)⟩, (by omega), (by omega)⟩, ((f_9, n_10, n_11) : duS), hgahr_7, fs_mu (u := ((f_9, n_10, n_11) : duS)) (tot_a htt_r_15) (tot_b htt_r_17) (by first | exact Or.inl (by omega) | exact Or.inr (by assumption)) (by decide +kernel)⟩), hst⟩, by rw [ht]; exact hP.sub [0, 1, 2, 3, 4, 5, 6, 7, 8, 9, 10, 11, 12, 13, 14] rfl, hD.sub [0, 1, 2, 3, 4, 5, 6, 7, 8, 9, 10, 11, 12, 13, 14] (by decide +kernel) rfl⟩, hS.F ht⟩) hS.2.2 dX12_failed_92
      · refine lv_if_ne (tgt := 33) hx hb dX12_failed_26 (by decide +kernel) (fun c9 => absurd c9 (by decide +kernel)) (fun _ => ?_)
        refine lv_ldc2 (v := (-4611686018427387906)) hx hb hown (hts (.constantLong RX12 183 (-4611686018427387906)) (List.mem_of_getElem? (i := 1) rfl)) dX12_failed_29 ?_
        exact W.lret hx hb hr (fun t ht hW => ⟨⟨_, (fo, dy, mu, g0, g1, g4, pa), rfl, ⟨(Or.inl ⟨(fun h9 => by obtain ⟨⟨⟨h1, h2, h3⟩, h4⟩, h5⟩ := h9; omega), (by decide +kernel)⟩), hst⟩, by rw [ht]; exact hP.sub [0, 1, 2, 3, 4, 5, 6, 7, 8, 9, 10, 11, 12, 13, 14] rfl, hD.sub [0, 1, 2, 3, 4, 5, 6, 7, 8, 9, 10, 11, 12, 13, 14] (by decide +kernel) rfl⟩, hS.F ht⟩) hS.2.2 dX12_failed_32
    · refine lv_if_eq (tgt := 29) hx hb dX12_failed_15 (by decide +kernel) (fun _ => ?_) (fun c9 => absurd c9 (by decide +kernel))
      refine lv_ldc2 (v := (-4611686018427387906)) hx hb hown (hts (.constantLong RX12 183 (-4611686018427387906)) (List.mem_of_getElem? (i := 1) rfl)) dX12_failed_29 ?_
      exact W.lret hx hb hr (fun t ht hW => ⟨⟨_, (fo, dy, mu, g0, g1, g4, pa), rfl, ⟨(Or.inl ⟨(fun h9 => by obtain ⟨⟨⟨h1, h2, h3⟩, h4⟩, h5⟩ := h9; omega), (by decide +kernel)⟩), hst⟩, by rw [ht]; exact hP.sub [0, 1, 2, 3, 4, 5, 6, 7, 8, 9, 10, 11, 12, 13, 14] rfl, hD.sub [0, 1, 2, 3, 4, 5, 6, 7, 8, 9, 10, 11, 12, 13, 14] (by decide +kernel) rfl⟩, hS.F ht⟩) hS.2.2 dX12_failed_32
  · refine lv_if_eq (tgt := 29) hx hb dX12_failed_7 (by decide +kernel) (fun _ => ?_) (fun c9 => absurd c9 (by decide +kernel))
    refine lv_ldc2 (v := (-4611686018427387906)) hx hb hown (hts (.constantLong RX12 183 (-4611686018427387906)) (List.mem_of_getElem? (i := 1) rfl)) dX12_failed_29 ?_
    exact W.lret hx hb hr (fun t ht hW => ⟨⟨_, (fo, dy, mu, g0, g1, g4, pa), rfl, ⟨(Or.inl ⟨(fun h9 => by obtain ⟨⟨⟨h1, h2, h3⟩, h4⟩, h5⟩ := h9; omega), (by decide +kernel)⟩), hst⟩, by rw [ht]; exact hP.sub [0, 1, 2, 3, 4, 5, 6, 7, 8, 9, 10, 11, 12, 13, 14] rfl, hD.sub [0, 1, 2, 3, 4, 5, 6, 7, 8, 9, 10, 11, 12, 13, 14] (by decide +kernel) rfl⟩, hS.F ht⟩) hS.2.2 dX12_failed_32
end
section
theorem dX12_dues_0 : decode cX12_dues 0 = .ok (.aload_n 0, 1) := by decide +kernel
theorem dX12_dues_1 : decode cX12_dues 1 = .ok (.iload_n 1, 1) := by decide +kernel
theorem dX12_dues_10 : decode cX12_dues 10 = .ok (.iload 4, 2) := by decide +kernel
theorem dX12_dues_101 : decode cX12_dues 101 = .ok (.iload 6, 2) := by decide +kernel
theorem dX12_dues_103 : decode cX12_dues 103 = .ok (.laload, 1) := by decide +kernel
theorem dX12_dues_104 : decode cX12_dues 104 = .ok (.invokevirtual 281, 3) := by decide +kernel
theorem dX12_dues_107 : decode cX12_dues 107 = .ok (.ifCond .ne 6, 3) := by decide +kernel
theorem dX12_dues_110 : decode cX12_dues 110 = .ok (.bipush (-5), 2) := by decide +kernel
theorem dX12_dues_112 : decode cX12_dues 112 = .ok (.ireturn, 1) := by decide +kernel
theorem dX12_dues_113 : decode cX12_dues 113 = .ok (.iinc 6 1, 3) := by decide +kernel
theorem dX12_dues_116 : decode cX12_dues 116 = .ok (.goto (-33), 3) := by decide +kernel
theorem dX12_dues_119 : decode cX12_dues 119 = .ok (.bipush 7, 2) := by decide +kernel
theorem dX12_dues_12 : decode cX12_dues 12 = .ok (.iconst 0, 1) := by decide +kernel
theorem dX12_dues_121 : decode cX12_dues 121 = .ok (.ireturn, 1) := by decide +kernel
theorem dX12_dues_13 : decode cX12_dues 13 = .ok (.iconst 3, 1) := by decide +kernel
theorem dX12_dues_14 : decode cX12_dues 14 = .ok (.invokestatic 77, 3) := by decide +kernel
theorem dX12_dues_17 : decode cX12_dues 17 = .ok (.ifCond .ne 6, 3) := by decide +kernel
theorem dX12_dues_2 : decode cX12_dues 2 = .ok (.iload_n 2, 1) := by decide +kernel
theorem dX12_dues_20 : decode cX12_dues 20 = .ok (.bipush (-2), 2) := by decide +kernel
theorem dX12_dues_22 : decode cX12_dues 22 = .ok (.ireturn, 1) := by decide +kernel
theorem dX12_dues_23 : decode cX12_dues 23 = .ok (.aload_n 0, 1) := by decide +kernel
theorem dX12_dues_24 : decode cX12_dues 24 = .ok (.getfield 65, 3) := by decide +kernel
theorem dX12_dues_27 : decode cX12_dues 27 = .ok (.iload 4, 2) := by decide +kernel
theorem dX12_dues_29 : decode cX12_dues 29 = .ok (.aaload, 1) := by decide +kernel
theorem dX12_dues_3 : decode cX12_dues 3 = .ok (.iload_n 3, 1) := by decide +kernel
theorem dX12_dues_30 : decode cX12_dues 30 = .ok (.astore 5, 2) := by decide +kernel
theorem dX12_dues_32 : decode cX12_dues 32 = .ok (.aload 5, 2) := by decide +kernel
theorem dX12_dues_34 : decode cX12_dues 34 = .ok (.getfield 277, 3) := by decide +kernel
theorem dX12_dues_37 : decode cX12_dues 37 = .ok (.iconst (-1), 1) := by decide +kernel
theorem dX12_dues_38 : decode cX12_dues 38 = .ok (.if_icmp .ne 6, 3) := by decide +kernel
theorem dX12_dues_4 : decode cX12_dues 4 = .ok (.invokevirtual 250, 3) := by decide +kernel
theorem dX12_dues_41 : decode cX12_dues 41 = .ok (.bipush (-11), 2) := by decide +kernel
theorem dX12_dues_43 : decode cX12_dues 43 = .ok (.ireturn, 1) := by decide +kernel
theorem dX12_dues_44 : decode cX12_dues 44 = .ok (.aload_n 0, 1) := by decide +kernel
theorem dX12_dues_45 : decode cX12_dues 45 = .ok (.getfield 52, 3) := by decide +kernel
theorem dX12_dues_48 : decode cX12_dues 48 = .ok (.iload_n 1, 1) := by decide +kernel
theorem dX12_dues_49 : decode cX12_dues 49 = .ok (.iload_n 2, 1) := by decide +kernel
theorem dX12_dues_50 : decode cX12_dues 50 = .ok (.iload_n 3, 1) := by decide +kernel
theorem dX12_dues_51 : decode cX12_dues 51 = .ok (.invokevirtual 253, 3) := by decide +kernel
theorem dX12_dues_54 : decode cX12_dues 54 = .ok (.aload_n 0, 1) := by decide +kernel
theorem dX12_dues_55 : decode cX12_dues 55 = .ok (.getfield 52, 3) := by decide +kernel
theorem dX12_dues_58 : decode cX12_dues 58 = .ok (.getfield 256, 3) := by decide +kernel
theorem dX12_dues_61 : decode cX12_dues 61 = .ok (.ifCond .eq 6, 3) := by decide +kernel
theorem dX12_dues_64 : decode cX12_dues 64 = .ok (.bipush (-5), 2) := by decide +kernel
theorem dX12_dues_66 : decode cX12_dues 66 = .ok (.ireturn, 1) := by decide +kernel
theorem dX12_dues_67 : decode cX12_dues 67 = .ok (.aload 5, 2) := by decide +kernel
theorem dX12_dues_69 : decode cX12_dues 69 = .ok (.getfield 280, 3) := by decide +kernel
theorem dX12_dues_7 : decode cX12_dues 7 = .ok (.ifCond .eq 13, 3) := by decide +kernel
theorem dX12_dues_72 : decode cX12_dues 72 = .ok (.bipush 7, 2) := by decide +kernel
theorem dX12_dues_74 : decode cX12_dues 74 = .ok (.if_icmp .ge 6, 3) := by decide +kernel
theorem dX12_dues_77 : decode cX12_dues 77 = .ok (.bipush (-12), 2) := by decide +kernel
theorem dX12_dues_79 : decode cX12_dues 79 = .ok (.ireturn, 1) := by decide +kernel
theorem dX12_dues_80 : decode cX12_dues 80 = .ok (.iconst 0, 1) := by decide +kernel
theorem dX12_dues_81 : decode cX12_dues 81 = .ok (.istore 6, 2) := by decide +kernel
theorem dX12_dues_83 : decode cX12_dues 83 = .ok (.iload 6, 2) := by decide +kernel
theorem dX12_dues_85 : decode cX12_dues 85 = .ok (.bipush 7, 2) := by decide +kernel
theorem dX12_dues_87 : decode cX12_dues 87 = .ok (.if_icmp .ge 32, 3) := by decide +kernel
theorem dX12_dues_90 : decode cX12_dues 90 = .ok (.aload 5, 2) := by decide +kernel
theorem dX12_dues_92 : decode cX12_dues 92 = .ok (.iload 6, 2) := by decide +kernel
theorem dX12_dues_94 : decode cX12_dues 94 = .ok (.aload_n 0, 1) := by decide +kernel
theorem dX12_dues_95 : decode cX12_dues 95 = .ok (.getfield 52, 3) := by decide +kernel
theorem dX12_dues_98 : decode cX12_dues 98 = .ok (.getfield 259, 3) := by decide +kernel
set_option maxRecDepth 20000 in
theorem ggX12_dues_X12_isHad : GoodIn wsX12_dues wsX12_isHad := goodIn_r _ [11, 12, 13, 14, 15, 16, 17, 18, 19, 10, 20, 21, 22, 23, 24, 25, 26, 27, 195, 196, 197, 198, 199, 200, 201, 202, 203, 204, 205, 219, 220, 221, 222, 223, 224, 225, 226] rfl (by decide +kernel)
set_option maxRecDepth 20000 in
theorem ggX12_dues_X12_within : GoodIn wsX12_dues wsX12_within := goodIn_r _ [20] rfl (by decide +kernel)
set_option maxRecDepth 40000 in
theorem ggX12_dues_X3_gather_0 : GoodIn wsX12_dues [.code yX3_gather cX3_gather 5 none] := goodIn_r _ [32] rfl (by decide +kernel)
set_option maxRecDepth 40000 in
theorem ggX12_dues_X3_gather_1 : GoodIn wsX12_dues wsX3_gather_r1 := goodIn_r _ [33, 34, 35, 36, 37, 38, 39, 40, 41, 31, 42, 43, 44, 45, 46, 47, 48, 49, 50, 51, 52, 53, 16, 54] rfl (by decide +kernel)
set_option maxRecDepth 40000 in
theorem ggX12_dues_X3_gather_2 : GoodIn wsX12_dues wsX3_gather_r2 := goodIn_r _ [55, 56, 57, 58, 59, 60, 61, 62, 63, 64, 65, 66, 67, 68, 69, 70, 71, 72, 73, 74, 75, 76, 77, 78] rfl (by decide +kernel)
set_option maxRecDepth 40000 in
theorem ggX12_dues_X3_gather_3 : GoodIn wsX12_dues wsX3_gather_r3 := goodIn_r _ [79, 80, 81, 82, 83, 84, 85, 86, 87, 88, 89, 90, 91, 92, 93, 94, 95, 96, 97, 98, 99, 100, 101, 102] rfl (by decide +kernel)
set_option maxRecDepth 40000 in
theorem ggX12_dues_X3_gather_4 : GoodIn wsX12_dues wsX3_gather_r4 := goodIn_r _ [103, 104, 105, 106, 107, 108, 109, 110, 111, 112, 113, 114, 115, 116, 117, 118, 119, 120, 121, 122, 123, 124, 125, 126] rfl (by decide +kernel)
set_option maxRecDepth 40000 in
theorem ggX12_dues_X3_gather_5 : GoodIn wsX12_dues wsX3_gather_r5 := goodIn_r _ [127, 128, 129, 130, 131, 132, 133, 134, 135, 136, 137, 138, 139, 140, 141, 142, 143, 144, 145, 146, 147, 148, 149, 150] rfl (by decide +kernel)
set_option maxRecDepth 40000 in
theorem ggX12_dues_X3_gather_6 : GoodIn wsX12_dues wsX3_gather_r6 := goodIn_r _ [151, 152, 153, 154, 155, 156, 157, 158, 159, 160, 161, 162, 163, 164, 165, 166, 167, 168, 169, 170, 171, 172, 173, 174] rfl (by decide +kernel)
set_option maxRecDepth 40000 in
theorem ggX12_dues_X3_gather_7 : GoodIn wsX12_dues wsX3_gather_r7 := goodIn_r _ [175, 176, 177, 178, 179, 180, 181, 182, 183, 184] rfl (by decide +kernel)
set_option maxRecDepth 40000 in
theorem ggX12_dues_X3_gather_8 : GoodIn wsX12_dues wsX30 := goodIn_r _ [212, 213, 214, 215, 216, 217, 218] rfl (by decide +kernel)
set_option maxRecDepth 40000 in
theorem ggX12_dues_X3_gather_9 : GoodIn wsX12_dues wsX20 := goodIn_r _ [219, 220, 221, 222, 223, 224, 225, 226] rfl (by decide +kernel)
set_option maxRecDepth 40000 in
theorem ggX12_dues_X3_gather_10 : GoodIn wsX12_dues wsX80 := goodIn_r _ [227, 228, 229, 230, 231, 232, 233] rfl (by decide +kernel)
set_option maxRecDepth 40000 in
theorem ggX12_dues_X3_gather_11 : GoodIn wsX12_dues wsX110 := goodIn_r _ [234, 235, 236, 237, 238, 239] rfl (by decide +kernel)
set_option maxRecDepth 40000 in
theorem ggX12_dues_X3_gather : GoodIn wsX12_dues wsX3_gather := (goodIn_app ggX12_dues_X3_gather_0 (goodIn_app (goodIn_app (goodIn_app (goodIn_app (goodIn_app ggX12_dues_X3_gather_1 (goodIn_app ggX12_dues_X3_gather_2 (goodIn_app ggX12_dues_X3_gather_3 (goodIn_app ggX12_dues_X3_gather_4 (goodIn_app ggX12_dues_X3_gather_5 (goodIn_app ggX12_dues_X3_gather_6 ggX12_dues_X3_gather_7)))))) ggX12_dues_X3_gather_8) ggX12_dues_X3_gather_9) ggX12_dues_X3_gather_10) ggX12_dues_X3_gather_11))
set_option maxRecDepth 20000 in
theorem ggX12_dues_X9_store : GoodIn wsX12_dues wsX9_store := goodIn_r _ [189, 190, 191, 192, 193, 194, 206, 207, 208, 209, 210, 211] rfl (by decide +kernel)
set_option maxRecDepth 20000 in
theorem gX12_dues_X12_isHad : GoodIn wsX12_dues (wsV RX12 250 RX12 yX12_isHad wsX12_isHad) := goodIn_app (goodIn_r _ [7, 8, 9, 10] rfl (by decide +kernel)) ggX12_dues_X12_isHad
set_option maxRecDepth 20000 in
theorem gX12_dues_X12_within : GoodIn wsX12_dues (va_wsS RX12 77 yX12_within wsX12_within) := goodIn_app (goodIn_of _ (by decide +kernel)) ggX12_dues_X12_within
set_option maxRecDepth 20000 in
theorem gX12_dues_X3_gather : GoodIn wsX12_dues (wsV RX12 253 RX3 yX3_gather wsX3_gather) := goodIn_app (goodIn_r _ [28, 29, 30, 31] rfl (by decide +kernel)) ggX12_dues_X3_gather
set_option maxRecDepth 20000 in
theorem gX12_dues_X9_store : GoodIn wsX12_dues (wsV RX12 281 RX9 yX9_store wsX9_store) := goodIn_app (goodIn_r _ [185, 186, 187, 188] rfl (by decide +kernel)) ggX12_dues_X9_store
set_option maxRecDepth 20000 in
theorem in_X12_dues_X12 : ∀ w ∈ wsX120, w ∈ wsX12_dues := sub_r [195, 196, 197, 198, 199, 200, 201, 202, 203, 204, 205] rfl
set_option maxRecDepth 20000 in
theorem in_X12_dues_X3 : ∀ w ∈ wsX30, w ∈ wsX12_dues := sub_r [212, 213, 214, 215, 216, 217, 218] rfl
set_option maxRecDepth 20000 in
theorem in_X12_dues_X9 : ∀ w ∈ wsX90, w ∈ wsX12_dues := sub_r [206, 207, 208, 209, 210, 211] rfl
set_option maxHeartbeats 4000000 in
set_option maxRecDepth 100000 in
theorem c_X12_dues (l : Launch) (D : va_G) (T : Nat → ClassId) (ad sa av : Nat → Nat) (ta : Nat) (sz : Nat) (h0 : Nat) (fa : Nat) (fs0 : List Value) (on : Nat) (dy : Int32) (mu : Int32) (pa : Int32) (fo : Nat → Int64) (wo : Nat) (la : Nat) (cl : Nat) (p0 : Nat) (p1 : Nat) (p4 : Nat) (n : Int32) (l9 : Nat → Int32) (n0 : Int32) (c1 : Nat) (c2 : Nat) (c3 : Nat) (c4 : Nat) (c5 : Nat) (c6 : Nat) (c7 : Nat) (f1 : Nat → Int32) (f2 : Nat → Int32) (f3 : Nat → Int32) (f4 : Nat → Int32) (f5 : Nat → Int32) (g0 : Nat → Int64) (g1 : Nat → Int64) (g4 : Nat → Int32) (f6 : Nat → Int32) (h1 : Nat) (t0 : Nat) (t1 : Nat) (t2 : Nat) (t3 : Nat) (a00 : Nat) (a01 : Nat) (a02 : Nat) (a03 : Nat) (a10 : Nat) (a11 : Nat) (a12 : Nat) (a13 : Nat) (a20 : Nat) (a21 : Nat) (a22 : Nat) (a23 : Nat) (a30 : Nat) (a31 : Nat) (a32 : Nat) (a33 : Nat) (so : Nat → Int32) (sn : Nat → Int32) (si : Nat → Nat → Int32) (sl : Nat → Nat → Int64) (sf : Nat → Nat → UInt32) (sd : Nat → Nat → UInt64) (x1 : Int32) (x2 : Int32) (x3 : Int32) (x4 : Int32) (e0_4 : fs0[4]? = some (.ref cl)) (e0_7 : fs0[7]? = some (.ref fa)) (hn0 : 0 ≤ n0.toInt ∧ n0.toInt ≤ 24) (hok : okC f1 f3 f4 f5) (hmm : memW (VALW l9 f1 f2 f3 f4 f5) n0 n g0 g1 g4) (hlq : (1 ≤ (l9 4).toInt ∧ (l9 4).toInt ≤ 9) ∧ 1 ≤ (l9 6).toInt ∧ (l9 6).toInt ≤ 9) (e0_9 : fs0[9]? = some (.ref h1)) (hs0 : (-1 ≤ (so 0).toInt ∧ (so 0).toInt ≤ 3) ∧ 0 ≤ (sn 0).toInt ∧ (sn 0).toInt ≤ 30) (hs1 : (-1 ≤ (so 1).toInt ∧ (so 1).toInt ≤ 3) ∧ 0 ≤ (sn 1).toInt ∧ (sn 1).toInt ≤ 30) (hs2 : (-1 ≤ (so 2).toInt ∧ (so 2).toInt ≤ 3) ∧ 0 ≤ (sn 2).toInt ∧ (sn 2).toInt ≤ 30) (hs3 : (-1 ≤ (so 3).toInt ∧ (so 3).toInt ≤ 3) ∧ 0 ≤ (sn 3).toInt ∧ (sn 3).toInt ≤ 30) : Met l yX12_dues wsX12_dues ({ frames := 125, cells := 0, slots := 0, locals := 3987 }) (pWk [.ref h0, .int x1, .int x2, .int x3, .int x4] D T [(h0, .inr (9, fs0)), (fa, .inr (2, [.ref la, .ref cl, .ref wo, .ref on, .int dy, .int mu, .int pa])), (on, .inl (T 1, 7, .inr (.inl fo))), (wo, .inr (8, [.ref la, .ref cl, .ref p0, .ref p1, .ref p4, .int n])), (la, .inr (5, [.int (l9 0), .int (l9 1), .int (l9 2), .int (l9 3), .int (l9 4), .int (l9 5), .int (l9 6)])), (cl, .inr (1, [.int n0, .ref c1, .ref c2, .ref c3, .ref c4, .ref c5, .ref c6, .ref c7])), (c1, .inl (T 0, 24, .inl f1)), (c2, .inl (T 0, 24, .inl f2)), (c3, .inl (T 0, 24, .inl f3)), (c4, .inl (T 0, 24, .inl f4)), (c5, .inl (T 0, 24, .inl f5)), (p0, .inl (T 1, 676, .inr (.inl g0))), (p1, .inl (T 1, 676, .inr (.inl g1))), (p4, .inl (T 0, 672, .inl g4)), (c6, .inl (T 0, 24, .inl f6)), (h1, .inl (T 6, 4, .inr (.inr (.inr (.inr (va_up (va_up (va_up (va_up (fun _ => none) 0 (some t0)) 1 (some t1)) 2 (some t2)) 3 (some t3))))))), (t0, .inr (6, [.int (so 0), .int (sn 0), .ref a00, .ref a01, .ref a02, .ref a03])), (t1, .inr (6, [.int (so 1), .int (sn 1), .ref a10, .ref a11, .ref a12, .ref a13])), (t2, .inr (6, [.int (so 2), .int (sn 2), .ref a20, .ref a21, .ref a22, .ref a23])), (t3, .inr (6, [.int (so 3), .int (sn 3), .ref a30, .ref a31, .ref a32, .ref a33])), (a00, .inl (T 0, 30, .inl (si 0))), (a01, .inl (T 1, 30, .inr (.inl (sl 0)))), (a02, .inl (T 2, 30, .inr (.inr (.inl (sf 0))))), (a03, .inl (T 3, 30, .inr (.inr (.inr (.inl (sd 0)))))), (a10, .inl (T 0, 30, .inl (si 1))), (a11, .inl (T 1, 30, .inr (.inl (sl 1)))), (a12, .inl (T 2, 30, .inr (.inr (.inl (sf 1))))), (a13, .inl (T 3, 30, .inr (.inr (.inr (.inl (sd 1)))))), (a20, .inl (T 0, 30, .inl (si 2))), (a21, .inl (T 1, 30, .inr (.inl (sl 2)))), (a22, .inl (T 2, 30, .inr (.inr (.inl (sf 2))))), (a23, .inl (T 3, 30, .inr (.inr (.inr (.inl (sd 2)))))), (a30, .inl (T 0, 30, .inl (si 3))), (a31, .inl (T 1, 30, .inr (.inl (sl 3)))), (a32, .inl (T 2, 30, .inr (.inr (.inl (sf 3))))), (a33, .inl (T 3, 30, .inr (.inr (.inr (.inl (sd 3))))))] sz ad sa av ta) (va_Qi (fun (r : Int32) (u : (Nat → Int64) × Int32 × Int32 × (Nat → Int64) × (Nat → Int64) × (Nat → Int32) × Int32 × (Nat → Nat → Int32) × (Nat → Nat → Int64) × (Nat → Nat → UInt32) × (Nat → Nat → UInt64)) => stW (VALW l9 f1 f2 f3 f4 f5) n0 n (fun _ => True) g0 g1 g4 u.2.2.2.1 u.2.2.2.2.1 u.2.2.2.2.2.1) (bW D (va_A [(h0, .inr (9, fs0)), (fa, .inr (2, [.ref la, .ref cl, .ref wo, .ref on, .int dy, .int mu, .int pa])), (on, .inl (T 1, 7, .inr (.inl fo))), (wo, .inr (8, [.ref la, .ref cl, .ref p0, .ref p1, .ref p4, .int n])), (la, .inr (5, [.int (l9 0), .int (l9 1), .int (l9 2), .int (l9 3), .int (l9 4), .int (l9 5), .int (l9 6)])), (cl, .inr (1, [.int n0, .ref c1, .ref c2, .ref c3, .ref c4, .ref c5, .ref c6, .ref c7])), (c1, .inl (T 0, 24, .inl f1)), (c2, .inl (T 0, 24, .inl f2)), (c3, .inl (T 0, 24, .inl f3)), (c4, .inl (T 0, 24, .inl f4)), (c5, .inl (T 0, 24, .inl f5)), (p0, .inl (T 1, 676, .inr (.inl g0))), (p1, .inl (T 1, 676, .inr (.inl g1))), (p4, .inl (T 0, 672, .inl g4)), (c6, .inl (T 0, 24, .inl f6)), (h1, .inl (T 6, 4, .inr (.inr (.inr (.inr (va_up (va_up (va_up (va_up (fun _ => none) 0 (some t0)) 1 (some t1)) 2 (some t2)) 3 (some t3))))))), (t0, .inr (6, [.int (so 0), .int (sn 0), .ref a00, .ref a01, .ref a02, .ref a03])), (t1, .inr (6, [.int (so 1), .int (sn 1), .ref a10, .ref a11, .ref a12, .ref a13])), (t2, .inr (6, [.int (so 2), .int (sn 2), .ref a20, .ref a21, .ref a22, .ref a23])), (t3, .inr (6, [.int (so 3), .int (sn 3), .ref a30, .ref a31, .ref a32, .ref a33])), (a00, .inl (T 0, 30, .inl (si 0))), (a01, .inl (T 1, 30, .inr (.inl (sl 0)))), (a02, .inl (T 2, 30, .inr (.inr (.inl (sf 0))))), (a03, .inl (T 3, 30, .inr (.inr (.inr (.inl (sd 0)))))), (a10, .inl (T 0, 30, .inl (si 1))), (a11, .inl (T 1, 30, .inr (.inl (sl 1)))), (a12, .inl (T 2, 30, .inr (.inr (.inl (sf 1))))), (a13, .inl (T 3, 30, .inr (.inr (.inr (.inl (sd 1)))))), (a20, .inl (T 0, 30, .inl (si 2))), (a21, .inl (T 1, 30, .inr (.inl (sl 2)))), (a22, .inl (T 2, 30, .inr (.inr (.inl (sf 2))))), (a23, .inl (T 3, 30, .inr (.inr (.inr (.inl (sd 2)))))), (a30, .inl (T 0, 30, .inl (si 3))), (a31, .inl (T 1, 30, .inr (.inl (sl 3)))), (a32, .inl (T 2, 30, .inr (.inr (.inl (sf 3))))), (a33, .inl (T 3, 30, .inr (.inr (.inr (.inl (sd 3))))))] sz) (fun (u : (Nat → Int64) × Int32 × Int32 × (Nat → Int64) × (Nat → Int64) × (Nat → Int32) × Int32 × (Nat → Nat → Int32) × (Nat → Nat → Int64) × (Nat → Nat → UInt32) × (Nat → Nat → UInt64)) => [(h0, .inr (9, fs0)), (fa, .inr (2, [.ref la, .ref cl, .ref wo, .ref on, .int u.2.1, .int u.2.2.1, .int u.2.2.2.2.2.2.1])), (on, .inl (T 1, 7, .inr (.inl u.1))), (wo, .inr (8, [.ref la, .ref cl, .ref p0, .ref p1, .ref p4, .int n])), (la, .inr (5, [.int (l9 0), .int (l9 1), .int (l9 2), .int (l9 3), .int (l9 4), .int (l9 5), .int (l9 6)])), (cl, .inr (1, [.int n0, .ref c1, .ref c2, .ref c3, .ref c4, .ref c5, .ref c6, .ref c7])), (c1, .inl (T 0, 24, .inl f1)), (c2, .inl (T 0, 24, .inl f2)), (c3, .inl (T 0, 24, .inl f3)), (c4, .inl (T 0, 24, .inl f4)), (c5, .inl (T 0, 24, .inl f5)), (p0, .inl (T 1, 676, .inr (.inl u.2.2.2.1))), (p1, .inl (T 1, 676, .inr (.inl u.2.2.2.2.1))), (p4, .inl (T 0, 672, .inl u.2.2.2.2.2.1)), (c6, .inl (T 0, 24, .inl f6)), (h1, .inl (T 6, 4, .inr (.inr (.inr (.inr (va_up (va_up (va_up (va_up (fun _ => none) 0 (some t0)) 1 (some t1)) 2 (some t2)) 3 (some t3))))))), (t0, .inr (6, [.int (so 0), .int (sn 0), .ref a00, .ref a01, .ref a02, .ref a03])), (t1, .inr (6, [.int (so 1), .int (sn 1), .ref a10, .ref a11, .ref a12, .ref a13])), (t2, .inr (6, [.int (so 2), .int (sn 2), .ref a20, .ref a21, .ref a22, .ref a23])), (t3, .inr (6, [.int (so 3), .int (sn 3), .ref a30, .ref a31, .ref a32, .ref a33])), (a00, .inl (T 0, 30, .inl (u.2.2.2.2.2.2.2.1 0))), (a01, .inl (T 1, 30, .inr (.inl (u.2.2.2.2.2.2.2.2.1 0)))), (a02, .inl (T 2, 30, .inr (.inr (.inl (u.2.2.2.2.2.2.2.2.2.1 0))))), (a03, .inl (T 3, 30, .inr (.inr (.inr (.inl (u.2.2.2.2.2.2.2.2.2.2 0)))))), (a10, .inl (T 0, 30, .inl (u.2.2.2.2.2.2.2.1 1))), (a11, .inl (T 1, 30, .inr (.inl (u.2.2.2.2.2.2.2.2.1 1)))), (a12, .inl (T 2, 30, .inr (.inr (.inl (u.2.2.2.2.2.2.2.2.2.1 1))))), (a13, .inl (T 3, 30, .inr (.inr (.inr (.inl (u.2.2.2.2.2.2.2.2.2.2 1)))))), (a20, .inl (T 0, 30, .inl (u.2.2.2.2.2.2.2.1 2))), (a21, .inl (T 1, 30, .inr (.inl (u.2.2.2.2.2.2.2.2.1 2)))), (a22, .inl (T 2, 30, .inr (.inr (.inl (u.2.2.2.2.2.2.2.2.2.1 2))))), (a23, .inl (T 3, 30, .inr (.inr (.inr (.inl (u.2.2.2.2.2.2.2.2.2.2 2)))))), (a30, .inl (T 0, 30, .inl (u.2.2.2.2.2.2.2.1 3))), (a31, .inl (T 1, 30, .inr (.inl (u.2.2.2.2.2.2.2.2.1 3)))), (a32, .inl (T 2, 30, .inr (.inr (.inl (u.2.2.2.2.2.2.2.2.2.1 3))))), (a33, .inl (T 3, 30, .inr (.inr (.inr (.inl (u.2.2.2.2.2.2.2.2.2.2 3))))))])) (va_A [(h0, .inr (9, fs0)), (fa, .inr (2, [.ref la, .ref cl, .ref wo, .ref on, .int dy, .int mu, .int pa])), (on, .inl (T 1, 7, .inr (.inl fo))), (wo, .inr (8, [.ref la, .ref cl, .ref p0, .ref p1, .ref p4, .int n])), (la, .inr (5, [.int (l9 0), .int (l9 1), .int (l9 2), .int (l9 3), .int (l9 4), .int (l9 5), .int (l9 6)])), (cl, .inr (1, [.int n0, .ref c1, .ref c2, .ref c3, .ref c4, .ref c5, .ref c6, .ref c7])), (c1, .inl (T 0, 24, .inl f1)), (c2, .inl (T 0, 24, .inl f2)), (c3, .inl (T 0, 24, .inl f3)), (c4, .inl (T 0, 24, .inl f4)), (c5, .inl (T 0, 24, .inl f5)), (p0, .inl (T 1, 676, .inr (.inl g0))), (p1, .inl (T 1, 676, .inr (.inl g1))), (p4, .inl (T 0, 672, .inl g4)), (c6, .inl (T 0, 24, .inl f6)), (h1, .inl (T 6, 4, .inr (.inr (.inr (.inr (va_up (va_up (va_up (va_up (fun _ => none) 0 (some t0)) 1 (some t1)) 2 (some t2)) 3 (some t3))))))), (t0, .inr (6, [.int (so 0), .int (sn 0), .ref a00, .ref a01, .ref a02, .ref a03])), (t1, .inr (6, [.int (so 1), .int (sn 1), .ref a10, .ref a11, .ref a12, .ref a13])), (t2, .inr (6, [.int (so 2), .int (sn 2), .ref a20, .ref a21, .ref a22, .ref a23])), (t3, .inr (6, [.int (so 3), .int (sn 3), .ref a30, .ref a31, .ref a32, .ref a33])), (a00, .inl (T 0, 30, .inl (si 0))), (a01, .inl (T 1, 30, .inr (.inl (sl 0)))), (a02, .inl (T 2, 30, .inr (.inr (.inl (sf 0))))), (a03, .inl (T 3, 30, .inr (.inr (.inr (.inl (sd 0)))))), (a10, .inl (T 0, 30, .inl (si 1))), (a11, .inl (T 1, 30, .inr (.inl (sl 1)))), (a12, .inl (T 2, 30, .inr (.inr (.inl (sf 1))))), (a13, .inl (T 3, 30, .inr (.inr (.inr (.inl (sd 1)))))), (a20, .inl (T 0, 30, .inl (si 2))), (a21, .inl (T 1, 30, .inr (.inl (sl 2)))), (a22, .inl (T 2, 30, .inr (.inr (.inl (sf 2))))), (a23, .inl (T 3, 30, .inr (.inr (.inr (.inl (sd 2)))))), (a30, .inl (T 0, 30, .inl (si 3))), (a31, .inl (T 1, 30, .inr (.inl (sl 3)))), (a32, .inl (T 2, 30, .inr (.inr (.inl (sf 3))))), (a33, .inl (T 3, 30, .inr (.inr (.inr (.inl (sd 3))))))] sz)) 0 0 (va_A [(h0, .inr (9, fs0)), (fa, .inr (2, [.ref la, .ref cl, .ref wo, .ref on, .int dy, .int mu, .int pa])), (on, .inl (T 1, 7, .inr (.inl fo))), (wo, .inr (8, [.ref la, .ref cl, .ref p0, .ref p1, .ref p4, .int n])), (la, .inr (5, [.int (l9 0), .int (l9 1), .int (l9 2), .int (l9 3), .int (l9 4), .int (l9 5), .int (l9 6)])), (cl, .inr (1, [.int n0, .ref c1, .ref c2, .ref c3, .ref c4, .ref c5, .ref c6, .ref c7])), (c1, .inl (T 0, 24, .inl f1)), (c2, .inl (T 0, 24, .inl f2)), (c3, .inl (T 0, 24, .inl f3)), (c4, .inl (T 0, 24, .inl f4)), (c5, .inl (T 0, 24, .inl f5)), (p0, .inl (T 1, 676, .inr (.inl g0))), (p1, .inl (T 1, 676, .inr (.inl g1))), (p4, .inl (T 0, 672, .inl g4)), (c6, .inl (T 0, 24, .inl f6)), (h1, .inl (T 6, 4, .inr (.inr (.inr (.inr (va_up (va_up (va_up (va_up (fun _ => none) 0 (some t0)) 1 (some t1)) 2 (some t2)) 3 (some t3))))))), (t0, .inr (6, [.int (so 0), .int (sn 0), .ref a00, .ref a01, .ref a02, .ref a03])), (t1, .inr (6, [.int (so 1), .int (sn 1), .ref a10, .ref a11, .ref a12, .ref a13])), (t2, .inr (6, [.int (so 2), .int (sn 2), .ref a20, .ref a21, .ref a22, .ref a23])), (t3, .inr (6, [.int (so 3), .int (sn 3), .ref a30, .ref a31, .ref a32, .ref a33])), (a00, .inl (T 0, 30, .inl (si 0))), (a01, .inl (T 1, 30, .inr (.inl (sl 0)))), (a02, .inl (T 2, 30, .inr (.inr (.inl (sf 0))))), (a03, .inl (T 3, 30, .inr (.inr (.inr (.inl (sd 0)))))), (a10, .inl (T 0, 30, .inl (si 1))), (a11, .inl (T 1, 30, .inr (.inl (sl 1)))), (a12, .inl (T 2, 30, .inr (.inr (.inl (sf 1))))), (a13, .inl (T 3, 30, .inr (.inr (.inr (.inl (sd 1)))))), (a20, .inl (T 0, 30, .inl (si 2))), (a21, .inl (T 1, 30, .inr (.inl (sl 2)))), (a22, .inl (T 2, 30, .inr (.inr (.inl (sf 2))))), (a23, .inl (T 3, 30, .inr (.inr (.inr (.inl (sd 2)))))), (a30, .inl (T 0, 30, .inl (si 3))), (a31, .inl (T 1, 30, .inr (.inl (sl 3)))), (a32, .inl (T 2, 30, .inr (.inr (.inl (sf 3))))), (a33, .inl (T 3, 30, .inr (.inr (.inr (.inl (sd 3))))))] sz) := by
  refine Met.ofW (cc := cX12_dues) (maxL := 7) (ret := (some .int)) (by decide +kernel) rfl ?_
  intro p e s m args below meth c s₁ B hml hv
  obtain ⟨rfl, hsz, hP, hE, hD0, hV⟩ := hv
  have hx := B.exec
  have hb := B.bytes
  have hr := B.returns
  have hts := atoms_spec (ws := wsX12_dues) B.pre
  have hown : s.vm.findClass RX12 = some m.cls := findClass_of_methodNamed B.named
  have hlocks := B.notSynchronized
  subst hsz
  have hD := hD0.self (sz := s.heap.size)
  generalize hAe : va_A [(h0, .inr (9, fs0)), (fa, .inr (2, [.ref la, .ref cl, .ref wo, .ref on, .int dy, .int mu, .int pa])), (on, .inl (T 1, 7, .inr (.inl fo))), (wo, .inr (8, [.ref la, .ref cl, .ref p0, .ref p1, .ref p4, .int n])), (la, .inr (5, [.int (l9 0), .int (l9 1), .int (l9 2), .int (l9 3), .int (l9 4), .int (l9 5), .int (l9 6)])), (cl, .inr (1, [.int n0, .ref c1, .ref c2, .ref c3, .ref c4, .ref c5, .ref c6, .ref c7])), (c1, .inl (T 0, 24, .inl f1)), (c2, .inl (T 0, 24, .inl f2)), (c3, .inl (T 0, 24, .inl f3)), (c4, .inl (T 0, 24, .inl f4)), (c5, .inl (T 0, 24, .inl f5)), (p0, .inl (T 1, 676, .inr (.inl g0))), (p1, .inl (T 1, 676, .inr (.inl g1))), (p4, .inl (T 0, 672, .inl g4)), (c6, .inl (T 0, 24, .inl f6)), (h1, .inl (T 6, 4, .inr (.inr (.inr (.inr (va_up (va_up (va_up (va_up (fun _ => none) 0 (some t0)) 1 (some t1)) 2 (some t2)) 3 (some t3))))))), (t0, .inr (6, [.int (so 0), .int (sn 0), .ref a00, .ref a01, .ref a02, .ref a03])), (t1, .inr (6, [.int (so 1), .int (sn 1), .ref a10, .ref a11, .ref a12, .ref a13])), (t2, .inr (6, [.int (so 2), .int (sn 2), .ref a20, .ref a21, .ref a22, .ref a23])), (t3, .inr (6, [.int (so 3), .int (sn 3), .ref a30, .ref a31, .ref a32, .ref a33])), (a00, .inl (T 0, 30, .inl (si 0))), (a01, .inl (T 1, 30, .inr (.inl (sl 0)))), (a02, .inl (T 2, 30, .inr (.inr (.inl (sf 0))))), (a03, .inl (T 3, 30, .inr (.inr (.inr (.inl (sd 0)))))), (a10, .inl (T 0, 30, .inl (si 1))), (a11, .inl (T 1, 30, .inr (.inl (sl 1)))), (a12, .inl (T 2, 30, .inr (.inr (.inl (sf 1))))), (a13, .inl (T 3, 30, .inr (.inr (.inr (.inl (sd 1)))))), (a20, .inl (T 0, 30, .inl (si 2))), (a21, .inl (T 1, 30, .inr (.inl (sl 2)))), (a22, .inl (T 2, 30, .inr (.inr (.inl (sf 2))))), (a23, .inl (T 3, 30, .inr (.inr (.inr (.inl (sd 2)))))), (a30, .inl (T 0, 30, .inl (si 3))), (a31, .inl (T 1, 30, .inr (.inl (sl 3)))), (a32, .inl (T 2, 30, .inr (.inr (.inl (sf 3))))), (a33, .inl (T 3, 30, .inr (.inr (.inr (.inl (sd 3))))))] s.heap.size = A at hD hV ⊢
  have hA : ∀ q : Nat, s.heap.size ≤ q → A q := fun q h => by rw [← hAe]; exact Or.inr h
  have hS : va_S A s.heap s.heap [] := va_S.rf
  have hP : va_P D vwCl [(h0, .inr (9, fs0)), (fa, .inr (2, [.ref la, .ref cl, .ref wo, .ref on, .int dy, .int mu, .int pa])), (on, .inl (T 1, 7, .inr (.inl fo))), (wo, .inr (8, [.ref la, .ref cl, .ref p0, .ref p1, .ref p4, .int n])), (la, .inr (5, [.int (l9 0), .int (l9 1), .int (l9 2), .int (l9 3), .int (l9 4), .int (l9 5), .int (l9 6)])), (cl, .inr (1, [.int n0, .ref c1, .ref c2, .ref c3, .ref c4, .ref c5, .ref c6, .ref c7])), (c1, .inl (T 0, 24, .inl f1)), (c2, .inl (T 0, 24, .inl f2)), (c3, .inl (T 0, 24, .inl f3)), (c4, .inl (T 0, 24, .inl f4)), (c5, .inl (T 0, 24, .inl f5)), (p0, .inl (T 1, 676, .inr (.inl g0))), (p1, .inl (T 1, 676, .inr (.inl g1))), (p4, .inl (T 0, 672, .inl g4)), (c6, .inl (T 0, 24, .inl f6)), (h1, .inl (T 6, 4, .inr (.inr (.inr (.inr (va_up (va_up (va_up (va_up (fun _ => none) 0 (some t0)) 1 (some t1)) 2 (some t2)) 3 (some t3))))))), (t0, .inr (6, [.int (so 0), .int (sn 0), .ref a00, .ref a01, .ref a02, .ref a03])), (t1, .inr (6, [.int (so 1), .int (sn 1), .ref a10, .ref a11, .ref a12, .ref a13])), (t2, .inr (6, [.int (so 2), .int (sn 2), .ref a20, .ref a21, .ref a22, .ref a23])), (t3, .inr (6, [.int (so 3), .int (sn 3), .ref a30, .ref a31, .ref a32, .ref a33])), (a00, .inl (T 0, 30, .inl (si 0))), (a01, .inl (T 1, 30, .inr (.inl (sl 0)))), (a02, .inl (T 2, 30, .inr (.inr (.inl (sf 0))))), (a03, .inl (T 3, 30, .inr (.inr (.inr (.inl (sd 0)))))), (a10, .inl (T 0, 30, .inl (si 1))), (a11, .inl (T 1, 30, .inr (.inl (sl 1)))), (a12, .inl (T 2, 30, .inr (.inr (.inl (sf 1))))), (a13, .inl (T 3, 30, .inr (.inr (.inr (.inl (sd 1)))))), (a20, .inl (T 0, 30, .inl (si 2))), (a21, .inl (T 1, 30, .inr (.inl (sl 2)))), (a22, .inl (T 2, 30, .inr (.inr (.inl (sf 2))))), (a23, .inl (T 3, 30, .inr (.inr (.inr (.inl (sd 2)))))), (a30, .inl (T 0, 30, .inl (si 3))), (a31, .inl (T 1, 30, .inr (.inl (sl 3)))), (a32, .inl (T 2, 30, .inr (.inr (.inl (sf 3))))), (a33, .inl (T 3, 30, .inr (.inr (.inr (.inl (sd 3))))))] s.heap := hP
  have hl := lv_entry ([.ref h0, .int x1, .int x2, .int x3, .int x4]) (n := 7) (Nat.le_of_ble_eq_true rfl)
  rw [lg_entry_eq]
  generalize (lg_sl ([.ref h0, .int x1, .int x2, .int x3, .int x4]) ++ List.replicate (7 - (lg_sl ([.ref h0, .int x1, .int x2, .int x3, .int x4])).length) Slot.unset).toArray = ls at hl ⊢
  have hl : lv_has ls 7 [(0, .ref h0), (1, .int x1), (2, .int x2), (3, .int x3), (4, .int x4)] := hl
  clear hD0
  have hst : stW (VALW l9 f1 f2 f3 f4 f5) n0 n (fun _ => True) g0 g1 g4 g0 g1 g4 := stW_rf hmm
  refine lv_aload_n hx hb dX12_dues_0 rfl (lv_at hl 0 rfl) ?_
  refine lv_iload_n hx hb dX12_dues_1 rfl (lv_at hl 1 rfl) ?_
  refine lv_iload_n hx hb dX12_dues_2 rfl (lv_at hl 2 rfl) ?_
  refine lv_iload_n hx hb dX12_dues_3 rfl (lv_at hl 3 rfl) ?_
  refine vp_callSi (W.runV (As := [.int x1, .int x2, .int x3]) (rest := []) ⟨hx, hb, hml, hown, hts⟩ (c_X12_isHad l D T h0 fs0 cl [.int n0, .ref c1, .ref c2, .ref c3, .ref c4, .ref c5, .ref c6, .ref c7] x1 x2 x3 n0 e0_4 rfl (by omega)) (cwV 3 hts gX12_dues_X12_isHad rfl rfl rfl hv_X12_isHad ⟨Nat.le_of_ble_eq_true rfl, Nat.le_of_ble_eq_true rfl⟩) (pR_V (q := (RX12, TX12, 11)) (ci := 9) (q0 := 0) hP hE rfl rfl [0, 5] rfl) rfl rfl hl.1 rfl (lv_room (Nat.le_of_ble_eq_true rfl)) dX12_dues_4 ⟨Nat.le_of_ble_eq_true rfl, Nat.le_of_ble_eq_true rfl⟩) (fun r_1 hr_1 => ?_)
  rcases bool_post hr_1 with ⟨c_2, rfl⟩ | ⟨c_2, rfl⟩
  · refine lv_if_eq (tgt := 20) hx hb dX12_dues_7 (by decide +kernel) (fun c9 => absurd c9 (by decide +kernel)) (fun _ => ?_)
    refine lv_iload hx hb dX12_dues_10 (lv_at hl 4 rfl) ?_
    refine lv_iconst (v := 0) hx hb dX12_dues_12 (by decide +kernel) ?_
    refine lv_iconst (v := 3) hx hb dX12_dues_13 (by decide +kernel) ?_
    refine vp_callSi (W.runS (As := [.int x4, .int 0, .int 3]) (rest := []) ⟨hx, hb, hml, hown, hts⟩ (c_X12_within l D T x4 0 3 0 3 (by decide +kernel) (by decide +kernel)) (va_cwS 3 hts gX12_dues_X12_within rfl rfl rfl hs_X12_within ⟨Nat.le_of_ble_eq_true rfl, Nat.le_of_ble_eq_true rfl⟩) (pR_S hP hE [] rfl) rfl rfl hl.1 rfl (lv_room (Nat.le_of_ble_eq_true rfl)) dX12_dues_14 ⟨Nat.le_of_ble_eq_true rfl, Nat.le_of_ble_eq_true rfl⟩) (fun r_3 hr_3 => ?_)
    rcases bool_post hr_3 with ⟨c_4, rfl⟩ | ⟨c_4, rfl⟩
    · refine lv_if_ne (tgt := 23) hx hb dX12_dues_17 (by decide +kernel) (fun _ => ?_) (fun c9 => absurd c9 (by decide +kernel))
      refine lv_aload_n hx hb dX12_dues_23 rfl (lv_at hl 0 rfl) ?_
      refine va_get (D := D) (ci := 9) (v := .ref h1) (C := RX12) (T := TX12) (N := 11) hx hb hts in_X12_dues_X12 hown hE.1 hP 0 rfl rfl 9 (by decide +kernel) (hts (.fieldLink RX12 65 "ClauseBook" "sheets" "[LClauseBook$Sheet;") (List.mem_of_getElem? (i := 1) rfl)) (fun _ h9 => h9) e0_9 dX12_dues_24 ?_
      refine lv_iload hx hb dX12_dues_27 (lv_at hl 4 rfl) ?_
      rcases in4 (x := x4) (by omega) with rfl | rfl | rfl | rfl
      · refine va_aldq hx hb hE.1 hP 15 6 rfl rfl (by unfold vp_in; decide) dX12_dues_29 ?_
        refine W.eq (g2 := F0 m 30 ls [.ref t0]) rfl ?_
        refine lv_astore (lv' := [(5, .ref t0), (0, .ref h0), (1, .int x1), (2, .int x2), (3, .int x3), (4, .int 0)]) hx hb dX12_dues_30 hl (by decide +kernel) rfl (fun ls hl => ?_)
        refine lv_aload hx hb dX12_dues_32 (lv_at hl 0 rfl) ?_
        refine va_get (D := D) (ci := 6) (v := .int (so 0)) (C := RX9) (T := TX9) (N := 6) hx hb hts in_X12_dues_X9 hown hE.1 hP 16 rfl rfl 0 (by decide +kernel) (hts (.fieldLink RX12 277 "ClauseBook$Sheet" "sort" "I") (List.mem_of_getElem? (i := 2) rfl)) (fun _ h9 => h9) rfl dX12_dues_34 ?_
        refine lv_iconst (v := (-1)) hx hb dX12_dues_37 (by decide +kernel) ?_
        refine lv_icmp_ne (tgt := 44) hx hb dX12_dues_38 (by decide +kernel) (fun c_5 => ?_) (fun c_5 => ?_)
        · rw [fa_eq] at c_5
          try rw [ti_n1] at c_5
          refine lv_aload_n hx hb dX12_dues_44 rfl (lv_at hl 1 rfl) ?_
          refine va_get (D := D) (ci := 9) (v := .ref fa) (C := RX12) (T := TX12) (N := 11) hx hb hts in_X12_dues_X12 hown hE.1 hP 0 rfl rfl 7 (by decide +kernel) (hts (.fieldLink RX12 52 "ClauseBook" "falling" "LClauseBook$Falling;") (List.mem_of_getElem? (i := 3) rfl)) (fun _ h9 => h9) e0_7 dX12_dues_45 ?_
          refine lv_iload_n hx hb dX12_dues_48 rfl (lv_at hl 2 rfl) ?_
          refine lv_iload_n hx hb dX12_dues_49 rfl (lv_at hl 3 rfl) ?_
          refine lv_iload_n hx hb dX12_dues_50 rfl (lv_at hl 4 rfl) ?_
          have hFc := va_free (wc := [(fa, .inr (2, [.ref la, .ref cl, .ref wo, .ref on, .int dy, .int mu, .int pa])), (on, .inl (T 1, 7, .inr (.inl fo))), (wo, .inr (8, [.ref la, .ref cl, .ref p0, .ref p1, .ref p4, .int n])), (la, .inr (5, [.int (l9 0), .int (l9 1), .int (l9 2), .int (l9 3), .int (l9 4), .int (l9 5), .int (l9 6)])), (cl, .inr (1, [.int n0, .ref c1, .ref c2, .ref c3, .ref c4, .ref c5, .ref c6, .ref c7])), (c1, .inl (T 0, 24, .inl f1)), (c2, .inl (T 0, 24, .inl f2)), (c3, .inl (T 0, 24, .inl f3)), (c4, .inl (T 0, 24, .inl f4)), (c5, .inl (T 0, 24, .inl f5)), (p0, .inl (T 1, 676, .inr (.inl g0))), (p1, .inl (T 1, 676, .inr (.inl g1))), (p4, .inl (T 0, 672, .inl g4)), (c6, .inl (T 0, 24, .inl f6))]) hD hS hA [1, 2, 3, 4, 5, 6, 7, 8, 9, 10, 11, 12, 13, 14] rfl
          refine va_callv (va_runV (As := [.int x1, .int x2, .int x3]) (rest := []) ⟨hx, hb, hml, hown, hts⟩ (c_X3_gather l D T ad sa av ta _ fa on dy mu pa fo wo la cl p0 p1 p4 n l9 n0 c1 c2 c3 c4 c5 c6 c7 f1 f2 f3 f4 f5 g0 g1 g4 f6 x1 x2 x3 (by omega) (by omega) (by omega) hok (by omega) hmm hlq) (cwV 3 hts gX12_dues_X3_gather rfl rfl rfl hv_X3_gather ⟨Nat.le_of_ble_eq_true rfl, Nat.le_of_ble_eq_true rfl⟩) (pWk_V (q := (RX3, TX3, 7)) (ci := 2) (q0 := 1) hP hE hD hV hS hFc rfl rfl [1, 2, 3, 4, 5, 6, 7, 8, 9, 10, 11, 12, 13, 14] (by decide +kernel) rfl rfl) rfl rfl hl.1 rfl (lv_room (Nat.le_of_ble_eq_true rfl)) dX12_dues_51 ⟨Nat.le_of_ble_eq_true rfl, Nat.le_of_ble_eq_true rfl⟩) hS (fun q _ h => hFc q h) hFc (fun u_7 t H1 locs ht hvm hr_6 hB hz1 hk1 hS => ?_)
          obtain ⟨f_8, n_9, n_10, f_11, f_12, f_13⟩ := u_7
          have hsfhr_6 : stW (VALW l9 f1 f2 f3 f4 f5) n0 n (fun _ => True) g0 g1 g4 f_11 f_12 f_13 := hr_6.2
          have hst : stW (VALW l9 f1 f2 f3 f4 f5) n0 n (fun _ => True) g0 g1 g4 f_11 f_12 f_13 := hst.tr hsfhr_6 (fun _ _ => trivial)
          have hmm : memW (VALW l9 f1 f2 f3 f4 f5) n0 n f_11 f_12 f_13 := hst.1
          have hgahr_6 : dusP l9 f1 f2 f3 f4 f5 f6 (VALW l9 f1 f2 f3 f4 f5) x3 x1 x2 ((f_8, n_9, n_10) : duS) := hr_6.1
          obtain ⟨hP1, hD1⟩ := hB
          rw [ht] at hP1
          obtain ⟨hP, hD⟩ := va_repl [(h0, .inr (9, fs0)), (fa, .inr (2, [.ref la, .ref cl, .ref wo, .ref on, .int n_9, .int n_10, .int x3])), (on, .inl (T 1, 7, .inr (.inl f_8))), (wo, .inr (8, [.ref la, .ref cl, .ref p0, .ref p1, .ref p4, .int n])), (la, .inr (5, [.int (l9 0), .int (l9 1), .int (l9 2), .int (l9 3), .int (l9 4), .int (l9 5), .int (l9 6)])), (cl, .inr (1, [.int n0, .ref c1, .ref c2, .ref c3, .ref c4, .ref c5, .ref c6, .ref c7])), (c1, .inl (T 0, 24, .inl f1)), (c2, .inl (T 0, 24, .inl f2)), (c3, .inl (T 0, 24, .inl f3)), (c4, .inl (T 0, 24, .inl f4)), (c5, .inl (T 0, 24, .inl f5)), (p0, .inl (T 1, 676, .inr (.inl f_11))), (p1, .inl (T 1, 676, .inr (.inl f_12))), (p4, .inl (T 0, 672, .inl f_13)), (c6, .inl (T 0, 24, .inl f6)), (h1, .inl (T 6, 4, .inr (.inr (.inr (.inr (va_up (va_up (va_up (va_up (fun _ => none) 0 (some t0)) 1 (some t1)) 2 (some t2)) 3 (some t3))))))), (t0, .inr (6, [.int (so 0), .int (sn 0), .ref a00, .ref a01, .ref a02, .ref a03])), (t1, .inr (6, [.int (so 1), .int (sn 1), .ref a10, .ref a11, .ref a12, .ref a13])), (t2, .inr (6, [.int (so 2), .int (sn 2), .ref a20, .ref a21, .ref a22, .ref a23])), (t3, .inr (6, [.int (so 3), .int (sn 3), .ref a30, .ref a31, .ref a32, .ref a33])), (a00, .inl (T 0, 30, .inl (si 0))), (a01, .inl (T 1, 30, .inr (.inl (sl 0)))), (a02, .inl (T 2, 30, .inr (.inr (.inl (sf 0))))), (a03, .inl (T 3, 30, .inr (.inr (.inr (.inl (sd 0)))))), (a10, .inl (T 0, 30, .inl (si 1))), (a11, .inl (T 1, 30, .inr (.inl (sl 1)))), (a12, .inl (T 2, 30, .inr (.inr (.inl (sf 1))))), (a13, .inl (T 3, 30, .inr (.inr (.inr (.inl (sd 1)))))), (a20, .inl (T 0, 30, .inl (si 2))), (a21, .inl (T 1, 30, .inr (.inl (sl 2)))), (a22, .inl (T 2, 30, .inr (.inr (.inl (sf 2))))), (a23, .inl (T 3, 30, .inr (.inr (.inr (.inl (sd 2)))))), (a30, .inl (T 0, 30, .inl (si 3))), (a31, .inl (T 1, 30, .inr (.inl (sl 3)))), (a32, .inl (T 2, 30, .inr (.inr (.inl (sf 3))))), (a33, .inl (T 3, 30, .inr (.inr (.inr (.inl (sd 3))))))] hP hD [1, 2, 3, 4, 5, 6, 7, 8, 9, 10, 11, 12, 13, 14] [1, 2, 3, 4, 5, 6, 7, 8, 9, 10, 11, 12, 13, 14] rfl (by decide +kernel) rfl rfl rfl hk1 hP1
          clear hP1 hD1 hFc
          generalize H1 = H at hP hS ⊢
          refine lv_aload_n hx hb dX12_dues_54 rfl (lv_at hl 1 rfl) ?_
          refine va_get (D := D) (ci := 9) (v := .ref fa) (C := RX12) (T := TX12) (N := 11) hx hb hts in_X12_dues_X12 hown hE.1 hP 0 rfl rfl 7 (by decide +kernel) (hts (.fieldLink RX12 52 "ClauseBook" "falling" "LClauseBook$Falling;") (List.mem_of_getElem? (i := 3) rfl)) (fun _ h9 => h9) e0_7 dX12_dues_55 ?_
          refine va_get (D := D) (ci := 2) (v := .int n_10) (C := RX3) (T := TX3) (N := 7) hx hb hts in_X12_dues_X3 hown hE.1 hP 1 rfl rfl 5 (by decide +kernel) (hts (.fieldLink RX12 256 "ClauseBook$Falling" "much" "Z") (List.mem_of_getElem? (i := 4) rfl)) (fun _ h9 => h9) rfl dX12_dues_58 ?_
          refine lv_if_eq (tgt := 67) hx hb dX12_dues_61 (by decide +kernel) (fun c_14 => ?_) (fun c_14 => ?_)
          · rw [fa_eq] at c_14
            try rw [ti_0] at c_14
            refine lv_aload hx hb dX12_dues_67 (lv_at hl 0 rfl) ?_
            refine va_get (D := D) (ci := 6) (v := .int (sn 0)) (C := RX9) (T := TX9) (N := 6) hx hb hts in_X12_dues_X9 hown hE.1 hP 16 rfl rfl 1 (by decide +kernel) (hts (.fieldLink RX12 280 "ClauseBook$Sheet" "size" "I") (List.mem_of_getElem? (i := 5) rfl)) (fun _ h9 => h9) rfl dX12_dues_69 ?_
            refine lv_bipush (v := 7) hx hb dX12_dues_72 (by decide +kernel) ?_
            refine lv_icmp_ge (tgt := 80) hx hb dX12_dues_74 (by decide +kernel) (fun c_15 => ?_) (fun c_15 => ?_)
            · rw [fa_le] at c_15
              try rw [ti_7] at c_15
              refine lv_iconst (v := 0) hx hb dX12_dues_80 (by decide +kernel) ?_
              refine lv_istore (lv' := [(6, .int 0), (5, .ref t0), (0, .ref h0), (1, .int x1), (2, .int x2), (3, .int x3), (4, .int 0)]) hx hb dX12_dues_81 hl (by decide +kernel) rfl (fun ls hl => ?_)
              refine loopW (σ := (Int32) × (Nat → Int32) × (Nat → Int64) × (Nat → UInt32) × (Nat → UInt64)) (fun x9 ls H locs => lv_has ls 7 [(6, .int x9.1), (5, .ref t0), (0, .ref h0), (1, .int x1), (2, .int x2), (3, .int x3), (4, .int 0)] ∧ va_P D vwCl [(h0, .inr (9, fs0)), (fa, .inr (2, [.ref la, .ref cl, .ref wo, .ref on, .int n_9, .int n_10, .int x3])), (on, .inl (T 1, 7, .inr (.inl f_8))), (wo, .inr (8, [.ref la, .ref cl, .ref p0, .ref p1, .ref p4, .int n])), (la, .inr (5, [.int (l9 0), .int (l9 1), .int (l9 2), .int (l9 3), .int (l9 4), .int (l9 5), .int (l9 6)])), (cl, .inr (1, [.int n0, .ref c1, .ref c2, .ref c3, .ref c4, .ref c5, .ref c6, .ref c7])), (c1, .inl (T 0, 24, .inl f1)), (c2, .inl (T 0, 24, .inl f2)), (c3, .inl (T 0, 24, .inl f3)), (c4, .inl (T 0, 24, .inl f4)), (c5, .inl (T 0, 24, .inl f5)), (p0, .inl (T 1, 676, .inr (.inl f_11))), (p1, .inl (T 1, 676, .inr (.inl f_12))), (p4, .inl (T 0, 672, .inl f_13)), (c6, .inl (T 0, 24, .inl f6)), (h1, .inl (T 6, 4, .inr (.inr (.inr (.inr (va_up (va_up (va_up (va_up (fun _ => none) 0 (some t0)) 1 (some t1)) 2 (some t2)) 3 (some t3))))))), (t0, .inr (6, [.int (so 0), .int (sn 0), .ref a00, .ref a01, .ref a02, .ref a03])), (t1, .inr (6, [.int (so 1), .int (sn 1), .ref a10, .ref a11, .ref a12, .ref a13])), (t2, .inr (6, [.int (so 2), .int (sn 2), .ref a20, .ref a21, .ref a22, .ref a23])), (t3, .inr (6, [.int (so 3), .int (sn 3), .ref a30, .ref a31, .ref a32, .ref a33])), (a00, .inl (T 0, 30, .inl x9.2.1)), (a01, .inl (T 1, 30, .inr (.inl x9.2.2.1))), (a02, .inl (T 2, 30, .inr (.inr (.inl x9.2.2.2.1)))), (a03, .inl (T 3, 30, .inr (.inr (.inr (.inl x9.2.2.2.2))))), (a10, .inl (T 0, 30, .inl (si 1))), (a11, .inl (T 1, 30, .inr (.inl (sl 1)))), (a12, .inl (T 2, 30, .inr (.inr (.inl (sf 1))))), (a13, .inl (T 3, 30, .inr (.inr (.inr (.inl (sd 1)))))), (a20, .inl (T 0, 30, .inl (si 2))), (a21, .inl (T 1, 30, .inr (.inl (sl 2)))), (a22, .inl (T 2, 30, .inr (.inr (.inl (sf 2))))), (a23, .inl (T 3, 30, .inr (.inr (.inr (.inl (sd 2)))))), (a30, .inl (T 0, 30, .inl (si 3))), (a31, .inl (T 1, 30, .inr (.inl (sl 3)))), (a32, .inl (T 2, 30, .inr (.inr (.inl (sf 3))))), (a33, .inl (T 3, 30, .inr (.inr (.inr (.inl (sd 3))))))] H ∧ va_D A [(h0, .inr (9, fs0)), (fa, .inr (2, [.ref la, .ref cl, .ref wo, .ref on, .int n_9, .int n_10, .int x3])), (on, .inl (T 1, 7, .inr (.inl f_8))), (wo, .inr (8, [.ref la, .ref cl, .ref p0, .ref p1, .ref p4, .int n])), (la, .inr (5, [.int (l9 0), .int (l9 1), .int (l9 2), .int (l9 3), .int (l9 4), .int (l9 5), .int (l9 6)])), (cl, .inr (1, [.int n0, .ref c1, .ref c2, .ref c3, .ref c4, .ref c5, .ref c6, .ref c7])), (c1, .inl (T 0, 24, .inl f1)), (c2, .inl (T 0, 24, .inl f2)), (c3, .inl (T 0, 24, .inl f3)), (c4, .inl (T 0, 24, .inl f4)), (c5, .inl (T 0, 24, .inl f5)), (p0, .inl (T 1, 676, .inr (.inl f_11))), (p1, .inl (T 1, 676, .inr (.inl f_12))), (p4, .inl (T 0, 672, .inl f_13)), (c6, .inl (T 0, 24, .inl f6)), (h1, .inl (T 6, 4, .inr (.inr (.inr (.inr (va_up (va_up (va_up (va_up (fun _ => none) 0 (some t0)) 1 (some t1)) 2 (some t2)) 3 (some t3))))))), (t0, .inr (6, [.int (so 0), .int (sn 0), .ref a00, .ref a01, .ref a02, .ref a03])), (t1, .inr (6, [.int (so 1), .int (sn 1), .ref a10, .ref a11, .ref a12, .ref a13])), (t2, .inr (6, [.int (so 2), .int (sn 2), .ref a20, .ref a21, .ref a22, .ref a23])), (t3, .inr (6, [.int (so 3), .int (sn 3), .ref a30, .ref a31, .ref a32, .ref a33])), (a00, .inl (T 0, 30, .inl x9.2.1)), (a01, .inl (T 1, 30, .inr (.inl x9.2.2.1))), (a02, .inl (T 2, 30, .inr (.inr (.inl x9.2.2.2.1)))), (a03, .inl (T 3, 30, .inr (.inr (.inr (.inl x9.2.2.2.2))))), (a10, .inl (T 0, 30, .inl (si 1))), (a11, .inl (T 1, 30, .inr (.inl (sl 1)))), (a12, .inl (T 2, 30, .inr (.inr (.inl (sf 1))))), (a13, .inl (T 3, 30, .inr (.inr (.inr (.inl (sd 1)))))), (a20, .inl (T 0, 30, .inl (si 2))), (a21, .inl (T 1, 30, .inr (.inl (sl 2)))), (a22, .inl (T 2, 30, .inr (.inr (.inl (sf 2))))), (a23, .inl (T 3, 30, .inr (.inr (.inr (.inl (sd 2)))))), (a30, .inl (T 0, 30, .inl (si 3))), (a31, .inl (T 1, 30, .inr (.inl (sl 3)))), (a32, .inl (T 2, 30, .inr (.inr (.inl (sf 3))))), (a33, .inl (T 3, 30, .inr (.inr (.inr (.inl (sd 3))))))] ∧ va_S A s.heap H locs ∧ (0 ≤ x9.1.toInt)) (fun x9 => (7 - x9.1.toInt).toNat) (fun x9 ls H locs hI ih => ?_) (0, (si 0), (sl 0), (sf 0), (sd 0)) ls ⟨lv_sub hl [0, 1, 2, 3, 4, 5, 6] rfl, hP.sub [0, 1, 2, 3, 4, 5, 6, 7, 8, 9, 10, 11, 12, 13, 14, 15, 16, 17, 18, 19, 20, 21, 22, 23, 24, 25, 26, 27, 28, 29, 30, 31, 32, 33, 34, 35] rfl, hD.sub [0, 1, 2, 3, 4, 5, 6, 7, 8, 9, 10, 11, 12, 13, 14, 15, 16, 17, 18, 19, 20, 21, 22, 23, 24, 25, 26, 27, 28, 29, 30, 31, 32, 33, 34, 35] (by decide +kernel) rfl, hS, (by (try dsimp only); decide)⟩
              obtain ⟨tt, q0, q1, q2, q3⟩ := x9
              obtain ⟨hl, hP, hD, hS, hinv⟩ := hI
              have hl : lv_has ls 7 [(6, .int tt), (5, .ref t0), (0, .ref h0), (1, .int x1), (2, .int x2), (3, .int x3), (4, .int 0)] := hl
              have hP : va_P D vwCl [(h0, .inr (9, fs0)), (fa, .inr (2, [.ref la, .ref cl, .ref wo, .ref on, .int n_9, .int n_10, .int x3])), (on, .inl (T 1, 7, .inr (.inl f_8))), (wo, .inr (8, [.ref la, .ref cl, .ref p0, .ref p1, .ref p4, .int n])), (la, .inr (5, [.int (l9 0), .int (l9 1), .int (l9 2), .int (l9 3), .int (l9 4), .int (l9 5), .int (l9 6)])), (cl, .inr (1, [.int n0, .ref c1, .ref c2, .ref c3, .ref c4, .ref c5, .ref c6, .ref c7])), (c1, .inl (T 0, 24, .inl f1)), (c2, .inl (T 0, 24, .inl f2)), (c3, .inl (T 0, 24, .inl f3)), (c4, .inl (T 0, 24, .inl f4)), (c5, .inl (T 0, 24, .inl f5)), (p0, .inl (T 1, 676, .inr (.inl f_11))), (p1, .inl (T 1, 676, .inr (.inl f_12))), (p4, .inl (T 0, 672, .inl f_13)), (c6, .inl (T 0, 24, .inl f6)), (h1, .inl (T 6, 4, .inr (.inr (.inr (.inr (va_up (va_up (va_up (va_up (fun _ => none) 0 (some t0)) 1 (some t1)) 2 (some t2)) 3 (some t3))))))), (t0, .inr (6, [.int (so 0), .int (sn 0), .ref a00, .ref a01, .ref a02, .ref a03])), (t1, .inr (6, [.int (so 1), .int (sn 1), .ref a10, .ref a11, .ref a12, .ref a13])), (t2, .inr (6, [.int (so 2), .int (sn 2), .ref a20, .ref a21, .ref a22, .ref a23])), (t3, .inr (6, [.int (so 3), .int (sn 3), .ref a30, .ref a31, .ref a32, .ref a33])), (a00, .inl (T 0, 30, .inl q0)), (a01, .inl (T 1, 30, .inr (.inl q1))), (a02, .inl (T 2, 30, .inr (.inr (.inl q2)))), (a03, .inl (T 3, 30, .inr (.inr (.inr (.inl q3))))), (a10, .inl (T 0, 30, .inl (si 1))), (a11, .inl (T 1, 30, .inr (.inl (sl 1)))), (a12, .inl (T 2, 30, .inr (.inr (.inl (sf 1))))), (a13, .inl (T 3, 30, .inr (.inr (.inr (.inl (sd 1)))))), (a20, .inl (T 0, 30, .inl (si 2))), (a21, .inl (T 1, 30, .inr (.inl (sl 2)))), (a22, .inl (T 2, 30, .inr (.inr (.inl (sf 2))))), (a23, .inl (T 3, 30, .inr (.inr (.inr (.inl (sd 2)))))), (a30, .inl (T 0, 30, .inl (si 3))), (a31, .inl (T 1, 30, .inr (.inl (sl 3)))), (a32, .inl (T 2, 30, .inr (.inr (.inl (sf 3))))), (a33, .inl (T 3, 30, .inr (.inr (.inr (.inl (sd 3))))))] H := hP
              have hD : va_D A [(h0, .inr (9, fs0)), (fa, .inr (2, [.ref la, .ref cl, .ref wo, .ref on, .int n_9, .int n_10, .int x3])), (on, .inl (T 1, 7, .inr (.inl f_8))), (wo, .inr (8, [.ref la, .ref cl, .ref p0, .ref p1, .ref p4, .int n])), (la, .inr (5, [.int (l9 0), .int (l9 1), .int (l9 2), .int (l9 3), .int (l9 4), .int (l9 5), .int (l9 6)])), (cl, .inr (1, [.int n0, .ref c1, .ref c2, .ref c3, .ref c4, .ref c5, .ref c6, .ref c7])), (c1, .inl (T 0, 24, .inl f1)), (c2, .inl (T 0, 24, .inl f2)), (c3, .inl (T 0, 24, .inl f3)), (c4, .inl (T 0, 24, .inl f4)), (c5, .inl (T 0, 24, .inl f5)), (p0, .inl (T 1, 676, .inr (.inl f_11))), (p1, .inl (T 1, 676, .inr (.inl f_12))), (p4, .inl (T 0, 672, .inl f_13)), (c6, .inl (T 0, 24, .inl f6)), (h1, .inl (T 6, 4, .inr (.inr (.inr (.inr (va_up (va_up (va_up (va_up (fun _ => none) 0 (some t0)) 1 (some t1)) 2 (some t2)) 3 (some t3))))))), (t0, .inr (6, [.int (so 0), .int (sn 0), .ref a00, .ref a01, .ref a02, .ref a03])), (t1, .inr (6, [.int (so 1), .int (sn 1), .ref a10, .ref a11, .ref a12, .ref a13])), (t2, .inr (6, [.int (so 2), .int (sn 2), .ref a20, .ref a21, .ref a22, .ref a23])), (t3, .inr (6, [.int (so 3), .int (sn 3), .ref a30, .ref a31, .ref a32, .ref a33])), (a00, .inl (T 0, 30, .inl q0)), (a01, .inl (T 1, 30, .inr (.inl q1))), (a02, .inl (T 2, 30, .inr (.inr (.inl q2)))), (a03, .inl (T 3, 30, .inr (.inr (.inr (.inl q3))))), (a10, .inl (T 0, 30, .inl (si 1))), (a11, .inl (T 1, 30, .inr (.inl (sl 1)))), (a12, .inl (T 2, 30, .inr (.inr (.inl (sf 1))))), (a13, .inl (T 3, 30, .inr (.inr (.inr (.inl (sd 1)))))), (a20, .inl (T 0, 30, .inl (si 2))), (a21, .inl (T 1, 30, .inr (.inl (sl 2)))), (a22, .inl (T 2, 30, .inr (.inr (.inl (sf 2))))), (a23, .inl (T 3, 30, .inr (.inr (.inr (.inl (sd 2)))))), (a30, .inl (T 0, 30, .inl (si 3))), (a31, .inl (T 1, 30, .inr (.inl (sl 3)))), (a32, .inl (T 2, 30, .inr (.inr (.inl (sf 3))))), (a33, .inl (T 3, 30, .inr (.inr (.inr (.inl (sd 3))))))] := hD
              have hinv : 0 ≤ tt.toInt := hinv
              refine lv_iload hx hb dX12_dues_83 (lv_at hl 0 rfl) ?_
              refine lv_bipush (v := 7) hx hb dX12_dues_85 (by decide +kernel) ?_
              refine lv_icmp_ge (tgt := 119) hx hb dX12_dues_87 (by decide +kernel) (fun c_16 => ?_) (fun c_16 => ?_)
              · rw [fa_le] at c_16
                try rw [ti_7] at c_16
                refine lv_bipush (v := 7) hx hb dX12_dues_119 (by decide +kernel) ?_
                exact W.iret hx hb hr (fun t ht hW => ⟨⟨_, (f_8, n_9, n_10, f_11, f_12, f_13, x3, (fun k => [q0, (si 1), (si 2), (si 3)].getD k q0), (fun k => [q1, (sl 1), (sl 2), (sl 3)].getD k q1), (fun k => [q2, (sf 1), (sf 2), (sf 3)].getD k q2), (fun k => [q3, (sd 1), (sd 2), (sd 3)].getD k q3)), rfl, hst, by rw [ht]; exact hP.sub [0, 1, 2, 3, 4, 5, 6, 7, 8, 9, 10, 11, 12, 13, 14, 15, 16, 17, 18, 19, 20, 21, 22, 23, 24, 25, 26, 27, 28, 29, 30, 31, 32, 33, 34, 35] rfl, hD.sub [0, 1, 2, 3, 4, 5, 6, 7, 8, 9, 10, 11, 12, 13, 14, 15, 16, 17, 18, 19, 20, 21, 22, 23, 24, 25, 26, 27, 28, 29, 30, 31, 32, 33, 34, 35] (by decide +kernel) rfl⟩, hS.F ht⟩) hS.2.2 dX12_dues_121
              · rw [fa_le] at c_16
                try rw [ti_7] at c_16
                refine lv_aload hx hb dX12_dues_90 (lv_at hl 1 rfl) ?_
                refine lv_iload hx hb dX12_dues_92 (lv_at hl 0 rfl) ?_
                refine lv_aload_n hx hb dX12_dues_94 rfl (lv_at hl 2 rfl) ?_
                refine va_get (D := D) (ci := 9) (v := .ref fa) (C := RX12) (T := TX12) (N := 11) hx hb hts in_X12_dues_X12 hown hE.1 hP 0 rfl rfl 7 (by decide +kernel) (hts (.fieldLink RX12 52 "ClauseBook" "falling" "LClauseBook$Falling;") (List.mem_of_getElem? (i := 3) rfl)) (fun _ h9 => h9) e0_7 dX12_dues_95 ?_
                refine va_get (D := D) (ci := 2) (v := .ref on) (C := RX3) (T := TX3) (N := 7) hx hb hts in_X12_dues_X3 hown hE.1 hP 1 rfl rfl 3 (by decide +kernel) (hts (.fieldLink RX12 259 "ClauseBook$Falling" "on" "[J") (List.mem_of_getElem? (i := 6) rfl)) (fun _ h9 => h9) rfl dX12_dues_98 ?_
                refine lv_iload hx hb dX12_dues_101 (lv_at hl 0 rfl) ?_
                refine va_lald hx hb hE.1 hP 2 1 rfl rfl (by rw [vp_in_iff]; first | omega | (subst_vars; omega)) dX12_dues_103 ?_
                refine lv_topl (fun z_17 ez_17 => ?_)
                have hFc := va_free (wc := [(t0, .inr (6, [.int (so 0), .int (sn 0), .ref a00, .ref a01, .ref a02, .ref a03])), (a00, .inl (T 0, 30, .inl q0)), (a01, .inl (T 1, 30, .inr (.inl q1))), (a02, .inl (T 2, 30, .inr (.inr (.inl q2)))), (a03, .inl (T 3, 30, .inr (.inr (.inr (.inl q3)))))]) hD hS hA [16, 20, 21, 22, 23] rfl
                refine va_calli (va_runV (As := [.int tt, .long z_17]) (rest := []) ⟨hx, hb, hml, hown, hts⟩ (c_X9_store l D T _ t0 (so 0) (sn 0) a00 a01 a02 a03 q0 q1 q2 q3 tt z_17 (by rw [vp_in_iff]; omega)) (cwV 2 hts gX12_dues_X9_store rfl rfl rfl hv_X9_store ⟨Nat.le_of_ble_eq_true rfl, Nat.le_of_ble_eq_true rfl⟩) (pW_V (q := (RX9, TX9, 6)) (ci := 6) (q0 := 16) hP hE hD rfl rfl [16, 20, 21, 22, 23] (by decide +kernel) rfl rfl) rfl rfl hl.1 rfl (lv_room (Nat.le_of_ble_eq_true rfl)) dX12_dues_104 ⟨Nat.le_of_ble_eq_true rfl, Nat.le_of_ble_eq_true rfl⟩) hS (fun q _ h => hFc q h) hFc (fun r_18 u_19 t H1 locs ht hvm hr_18 hB hz1 hk1 hS => ?_)
                obtain ⟨f_20, f_21, f_22, f_23⟩ := u_19
                obtain ⟨hP1, hD1⟩ := hB
                rw [ht] at hP1
                obtain ⟨hP, hD⟩ := va_repl [(h0, .inr (9, fs0)), (fa, .inr (2, [.ref la, .ref cl, .ref wo, .ref on, .int n_9, .int n_10, .int x3])), (on, .inl (T 1, 7, .inr (.inl f_8))), (wo, .inr (8, [.ref la, .ref cl, .ref p0, .ref p1, .ref p4, .int n])), (la, .inr (5, [.int (l9 0), .int (l9 1), .int (l9 2), .int (l9 3), .int (l9 4), .int (l9 5), .int (l9 6)])), (cl, .inr (1, [.int n0, .ref c1, .ref c2, .ref c3, .ref c4, .ref c5, .ref c6, .ref c7])), (c1, .inl (T 0, 24, .inl f1)), (c2, .inl (T 0, 24, .inl f2)), (c3, .inl (T 0, 24, .inl f3)), (c4, .inl (T 0, 24, .inl f4)), (c5, .inl (T 0, 24, .inl f5)), (p0, .inl (T 1, 676, .inr (.inl f_11))), (p1, .inl (T 1, 676, .inr (.inl f_12))), (p4, .inl (T 0, 672, .inl f_13)), (c6, .inl (T 0, 24, .inl f6)), (h1, .inl (T 6, 4, .inr (.inr (.inr (.inr (va_up (va_up (va_up (va_up (fun _ => none) 0 (some t0)) 1 (some t1)) 2 (some t2)) 3 (some t3))))))), (t0, .inr (6, [.int (so 0), .int (sn 0), .ref a00, .ref a01, .ref a02, .ref a03])), (t1, .inr (6, [.int (so 1), .int (sn 1), .ref a10, .ref a11, .ref a12, .ref a13])), (t2, .inr (6, [.int (so 2), .int (sn 2), .ref a20, .ref a21, .ref a22, .ref a23])), (t3, .inr (6, [.int (so 3), .int (sn 3), .ref a30, .ref a31, .ref a32, .ref a33])), (a00, .inl (T 0, 30, .inl f_20)), (a01, .inl (T 1, 30, .inr (.inl f_21))), (a02, .inl (T 2, 30, .inr (.inr (.inl f_22)))), (a03, .inl (T 3, 30, .inr (.inr (.inr (.inl f_23))))), (a10, .inl (T 0, 30, .inl (si 1))), (a11, .inl (T 1, 30, .inr (.inl (sl 1)))), (a12, .inl (T 2, 30, .inr (.inr (.inl (sf 1))))), (a13, .inl (T 3, 30, .inr (.inr (.inr (.inl (sd 1)))))), (a20, .inl (T 0, 30, .inl (si 2))), (a21, .inl (T 1, 30, .inr (.inl (sl 2)))), (a22, .inl (T 2, 30, .inr (.inr (.inl (sf 2))))), (a23, .inl (T 3, 30, .inr (.inr (.inr (.inl (sd 2)))))), (a30, .inl (T 0, 30, .inl (si 3))), (a31, .inl (T 1, 30, .inr (.inl (sl 3)))), (a32, .inl (T 2, 30, .inr (.inr (.inl (sf 3))))), (a33, .inl (T 3, 30, .inr (.inr (.inr (.inl (sd 3))))))] hP hD [16, 20, 21, 22, 23] [16, 20, 21, 22, 23] rfl (by decide +kernel) rfl rfl rfl hk1 hP1
                clear hP1 hD1 hFc
                generalize H1 = H at hP hS ⊢
                refine lv_if_ne (tgt := 113) hx hb dX12_dues_107 (by decide +kernel) (fun c_24 => ?_) (fun c_24 => ?_)
                · rw [fa_eq] at c_24
                  try rw [ti_0] at c_24
                  obtain ⟨z_25, ez_25⟩ : ∃ y : Int32, y = tt + 1 := ⟨_, rfl⟩
                  refine lv_iinc (v := z_25) (lv' := [(6, .int z_25), (5, .ref t0), (0, .ref h0), (1, .int x1), (2, .int x2), (3, .int x3), (4, .int 0)]) hx hb dX12_dues_113 hl (k := 0) rfl (by rw [ez_25]; rfl) (by decide +kernel) rfl (fun ls hl => ?_)
                  refine lv_goto (tgt := 83) hx hb dX12_dues_116 (by decide +kernel) ?_
                  exact ih (z_25, f_20, f_21, f_22, f_23) ls _ _ ⟨lv_sub hl [0, 1, 2, 3, 4, 5, 6] rfl, hP.sub [0, 1, 2, 3, 4, 5, 6, 7, 8, 9, 10, 11, 12, 13, 14, 15, 16, 17, 18, 19, 20, 21, 22, 23, 24, 25, 26, 27, 28, 29, 30, 31, 32, 33, 34, 35] rfl, hD.sub [0, 1, 2, 3, 4, 5, 6, 7, 8, 9, 10, 11, 12, 13, 14, 15, 16, 17, 18, 19, 20, 21, 22, 23, 24, 25, 26, 27, 28, 29, 30, 31, 32, 33, 34, 35] (by decide +kernel) rfl, hS, (by subst_vars; (try dsimp only); rw [inc1 (i := tt) (n := 1000) (by omega) (by decide +kernel)]; omega)⟩ (by subst_vars; (try dsimp only); rw [inc1 (i := tt) (n := 1000) (by omega) (by decide +kernel)]; omega)
                · rw [fa_eq] at c_24
                  try rw [ti_0] at c_24
                  refine lv_bipush (v := (-5)) hx hb dX12_dues_110 (by decide +kernel) ?_
                  exact W.iret hx hb hr (fun t ht hW => ⟨⟨_, (f_8, n_9, n_10, f_11, f_12, f_13, x3, (fun k => [f_20, (si 1), (si 2), (si 3)].getD k f_20), (fun k => [f_21, (sl 1), (sl 2), (sl 3)].getD k f_21), (fun k => [f_22, (sf 1), (sf 2), (sf 3)].getD k f_22), (fun k => [f_23, (sd 1), (sd 2), (sd 3)].getD k f_23)), rfl, hst, by rw [ht]; exact hP.sub [0, 1, 2, 3, 4, 5, 6, 7, 8, 9, 10, 11, 12, 13, 14, 15, 16, 17, 18, 19, 20, 21, 22, 23, 24, 25, 26, 27, 28, 29, 30, 31, 32, 33, 34, 35] rfl, hD.sub [0, 1, 2, 3, 4, 5, 6, 7, 8, 9, 10, 11, 12, 13, 14, 15, 16, 17, 18, 19, 20, 21, 22, 23, 24, 25, 26, 27, 28, 29, 30, 31, 32, 33, 34, 35] (by decide +kernel) rfl⟩, hS.F ht⟩) hS.2.2 dX12_dues_112
            · rw [fa_le] at c_15
              try rw [ti_7] at c_15
              refine lv_bipush (v := (-12)) hx hb dX12_dues_77 (by decide +kernel) ?_
              exact W.iret hx hb hr (fun t ht hW => ⟨⟨_, (f_8, n_9, n_10, f_11, f_12, f_13, x3, (fun k => [(si 0), (si 1), (si 2), (si 3)].getD k (si 0)), (fun k => [(sl 0), (sl 1), (sl 2), (sl 3)].getD k (sl 0)), (fun k => [(sf 0), (sf 1), (sf 2), (sf 3)].getD k (sf 0)), (fun k => [(sd 0), (sd 1), (sd 2), (sd 3)].getD k (sd 0))), rfl, hst, by rw [ht]; exact hP.sub [0, 1, 2, 3, 4, 5, 6, 7, 8, 9, 10, 11, 12, 13, 14, 15, 16, 17, 18, 19, 20, 21, 22, 23, 24, 25, 26, 27, 28, 29, 30, 31, 32, 33, 34, 35] rfl, hD.sub [0, 1, 2, 3, 4, 5, 6, 7, 8, 9, 10, 11, 12, 13, 14, 15, 16, 17, 18, 19, 20, 21, 22, 23, 24, 25, 26, 27, 28, 29, 30, 31, 32, 33, 34, 35] (by decide +kernel) rfl⟩, hS.F ht⟩) hS.2.2 dX12_dues_79
          · rw [fa_eq] at c_14
            try rw [ti_0] at c_14
            refine lv_bipush (v := (-5)) hx hb dX12_dues_64 (by decide +kernel) ?_
            exact W.iret hx hb hr (fun t ht hW => ⟨⟨_, (f_8, n_9, n_10, f_11, f_12, f_13, x3, (fun k => [(si 0), (si 1), (si 2), (si 3)].getD k (si 0)), (fun k => [(sl 0), (sl 1), (sl 2), (sl 3)].getD k (sl 0)), (fun k => [(sf 0), (sf 1), (sf 2), (sf 3)].getD k (sf 0)), (fun k => [(sd 0), (sd 1), (sd 2), (sd 3)].getD k (sd 0))), rfl, hst, by rw [ht]; exact hP.sub [0, 1, 2, 3, 4, 5, 6, 7, 8, 9, 10, 11, 12, 13, 14, 15, 16, 17, 18, 19, 20, 21, 22, 23, 24, 25, 26, 27, 28, 29, 30, 31, 32, 33, 34, 35] rfl, hD.sub [0, 1, 2, 3, 4, 5, 6, 7, 8, 9, 10, 11, 12, 13, 14, 15, 16, 17, 18, 19, 20, 21, 22, 23, 24, 25, 26, 27, 28, 29, 30, 31, 32, 33, 34, 35] (by decide +kernel) rfl⟩, hS.F ht⟩) hS.2.2 dX12_dues_66
        · rw [fa_eq] at c_5
          try rw [ti_n1] at c_5
          refine lv_bipush (v := (-11)) hx hb dX12_dues_41 (by decide +kernel) ?_
          exact W.iret hx hb hr (fun t ht hW => ⟨⟨_, (fo, dy, mu, g0, g1, g4, pa, (fun k => [(si 0), (si 1), (si 2), (si 3)].getD k (si 0)), (fun k => [(sl 0), (sl 1), (sl 2), (sl 3)].getD k (sl 0)), (fun k => [(sf 0), (sf 1), (sf 2), (sf 3)].getD k (sf 0)), (fun k => [(sd 0), (sd 1), (sd 2), (sd 3)].getD k (sd 0))), rfl, hst, by rw [ht]; exact hP.sub [0, 1, 2, 3, 4, 5, 6, 7, 8, 9, 10, 11, 12, 13, 14, 15, 16, 17, 18, 19, 20, 21, 22, 23, 24, 25, 26, 27, 28, 29, 30, 31, 32, 33, 34, 35] rfl, hD.sub [0, 1, 2, 3, 4, 5, 6, 7, 8, 9, 10, 11, 12, 13, 14, 15, 16, 17, 18, 19, 20, 21, 22, 23, 24, 25, 26, 27, 28, 29, 30, 31, 32, 33, 34, 35] (by decide +kernel) rfl⟩, hS.F ht⟩) hS.2.2 dX12_dues_43
      · refine va_aldq hx hb hE.1 hP 15 6 rfl rfl (by unfold vp_in; decide) dX12_dues_29 ?_
        refine W.eq (g2 := F0 m 30 ls [.ref t1]) rfl ?_
        refine lv_astore (lv' := [(5, .ref t1), (0, .ref h0), (1, .int x1), (2, .int x2), (3, .int x3), (4, .int 1)]) hx hb dX12_dues_30 hl (by decide +kernel) rfl (fun ls hl => ?_)
        refine lv_aload hx hb dX12_dues_32 (lv_at hl 0 rfl) ?_
        refine va_get (D := D) (ci := 6) (v := .int (so 1)) (C := RX9) (T := TX9) (N := 6) hx hb hts in_X12_dues_X9 hown hE.1 hP 17 rfl rfl 0 (by decide +kernel) (hts (.fieldLink RX12 277 "ClauseBook$Sheet" "sort" "I") (List.mem_of_getElem? (i := 2) rfl)) (fun _ h9 => h9) rfl dX12_dues_34 ?_
        refine lv_iconst (v := (-1)) hx hb dX12_dues_37 (by decide +kernel) ?_
        refine lv_icmp_ne (tgt := 44) hx hb dX12_dues_38 (by decide +kernel) (fun c_26 => ?_) (fun c_26 => ?_)
        · rw [fa_eq] at c_26
          try rw [ti_n1] at c_26
          refine lv_aload_n hx hb dX12_dues_44 rfl (lv_at hl 1 rfl) ?_
          refine va_get (D := D) (ci := 9) (v := .ref fa) (C := RX12) (T := TX12) (N := 11) hx hb hts in_X12_dues_X12 hown hE.1 hP 0 rfl rfl 7 (by decide +kernel) (hts (.fieldLink RX12 52 "ClauseBook" "falling" "LClauseBook$Falling;") (List.mem_of_getElem? (i := 3) rfl)) (fun _ h9 => h9) e0_7 dX12_dues_45 ?_
          refine lv_iload_n hx hb dX12_dues_48 rfl (lv_at hl 2 rfl) ?_
          refine lv_iload_n hx hb dX12_dues_49 rfl (lv_at hl 3 rfl) ?_
          refine lv_iload_n hx hb dX12_dues_50 rfl (lv_at hl 4 rfl) ?_
          have hFc := va_free (wc := [(fa, .inr (2, [.ref la, .ref cl, .ref wo, .ref on, .int dy, .int mu, .int pa])), (on, .inl (T 1, 7, .inr (.inl fo))), (wo, .inr (8, [.ref la, .ref cl, .ref p0, .ref p1, .ref p4, .int n])), (la, .inr (5, [.int (l9 0), .int (l9 1), .int (l9 2), .int (l9 3), .int (l9 4), .int (l9 5), .int (l9 6)])), (cl, .inr (1, [.int n0, .ref c1, .ref c2, .ref c3, .ref c4, .ref c5, .ref c6, .ref c7])), (c1, .inl (T 0, 24, .inl f1)), (c2, .inl (T 0, 24, .inl f2)), (c3, .inl (T 0, 24, .inl f3)), (c4, .inl (T 0, 24, .inl f4)), (c5, .inl (T 0, 24, .inl f5)), (p0, .inl (T 1, 676, .inr (.inl g0))), (p1, .inl (T 1, 676, .inr (.inl g1))), (p4, .inl (T 0, 672, .inl g4)), (c6, .inl (T 0, 24, .inl f6))]) hD hS hA [1, 2, 3, 4, 5, 6, 7, 8, 9, 10, 11, 12, 13, 14] rfl
          refine va_callv (va_runV (As := [.int x1, .int x2, .int x3]) (rest := []) ⟨hx, hb, hml, hown, hts⟩ (c_X3_gather l D T ad sa av ta _ fa on dy mu pa fo wo la cl p0 p1 p4 n l9 n0 c1 c2 c3 c4 c5 c6 c7 f1 f2 f3 f4 f5 g0 g1 g4 f6 x1 x2 x3 (by omega) (by omega) (by omega) hok (by omega) hmm hlq) (cwV 3 hts gX12_dues_X3_gather rfl rfl rfl hv_X3_gather ⟨Nat.le_of_ble_eq_true rfl, Nat.le_of_ble_eq_true rfl⟩) (pWk_V (q := (RX3, TX3, 7)) (ci := 2) (q0 := 1) hP hE hD hV hS hFc rfl rfl [1, 2, 3, 4, 5, 6, 7, 8, 9, 10, 11, 12, 13, 14] (by decide +kernel) rfl rfl) rfl rfl hl.1 rfl (lv_room (Nat.le_of_ble_eq_true rfl)) dX12_dues_51 ⟨Nat.le_of_ble_eq_true rfl, Nat.le_of_ble_eq_true rfl⟩) hS (fun q _ h => hFc q h) hFc (fun u_28 t H1 locs ht hvm hr_27 hB hz1 hk1 hS => ?_)
          obtain ⟨f_29, n_30, n_31, f_32, f_33, f_34⟩ := u_28
          have hsfhr_27 : stW (VALW l9 f1 f2 f3 f4 f5) n0 n (fun _ => True) g0 g1 g4 f_32 f_33 f_34 := hr_27.2
          have hst : stW (VALW l9 f1 f2 f3 f4 f5) n0 n (fun _ => True) g0 g1 g4 f_32 f_33 f_34 := hst.tr hsfhr_27 (fun _ _ => trivial)
          have hmm : memW (VALW l9 f1 f2 f3 f4 f5) n0 n f_32 f_33 f_34 := hst.1
          have hgahr_27 : dusP l9 f1 f2 f3 f4 f5 f6 (VALW l9 f1 f2 f3 f4 f5) x3 x1 x2 ((f_29, n_30, n_31) : duS) := hr_27.1
          obtain ⟨hP1, hD1⟩ := hB
          rw [ht] at hP1
          obtain ⟨hP, hD⟩ := va_repl [(h0, .inr (9, fs0)), (fa, .inr (2, [.ref la, .ref cl, .ref wo, .ref on, .int n_30, .int n_31, .int x3])), (on, .inl (T 1, 7, .inr (.inl f_29))), (wo, .inr (8, [.ref la, .ref cl, .ref p0, .ref p1, .ref p4, .int n])), (la, .inr (5, [.int (l9 0), .int (l9 1), .int (l9 2), .int (l9 3), .int (l9 4), .int (l9 5), .int (l9 6)])), (cl, .inr (1, [.int n0, .ref c1, .ref c2, .ref c3, .ref c4, .ref c5, .ref c6, .ref c7])), (c1, .inl (T 0, 24, .inl f1)), (c2, .inl (T 0, 24, .inl f2)), (c3, .inl (T 0, 24, .inl f3)), (c4, .inl (T 0, 24, .inl f4)), (c5, .inl (T 0, 24, .inl f5)), (p0, .inl (T 1, 676, .inr (.inl f_32))), (p1, .inl (T 1, 676, .inr (.inl f_33))), (p4, .inl (T 0, 672, .inl f_34)), (c6, .inl (T 0, 24, .inl f6)), (h1, .inl (T 6, 4, .inr (.inr (.inr (.inr (va_up (va_up (va_up (va_up (fun _ => none) 0 (some t0)) 1 (some t1)) 2 (some t2)) 3 (some t3))))))), (t0, .inr (6, [.int (so 0), .int (sn 0), .ref a00, .ref a01, .ref a02, .ref a03])), (t1, .inr (6, [.int (so 1), .int (sn 1), .ref a10, .ref a11, .ref a12, .ref a13])), (t2, .inr (6, [.int (so 2), .int (sn 2), .ref a20, .ref a21, .ref a22, .ref a23])), (t3, .inr (6, [.int (so 3), .int (sn 3), .ref a30, .ref a31, .ref a32, .ref a33])), (a00, .inl (T 0, 30, .inl (si 0))), (a01, .inl (T 1, 30, .inr (.inl (sl 0)))), (a02, .inl (T 2, 30, .inr (.inr (.inl (sf 0))))), (a03, .inl (T 3, 30, .inr (.inr (.inr (.inl (sd 0)))))), (a10, .inl (T 0, 30, .inl (si 1))), (a11, .inl (T 1, 30, .inr (.inl (sl 1)))), (a12, .inl (T 2, 30, .inr (.inr (.inl (sf 1))))), (a13, .inl (T 3, 30, .inr (.inr (.inr (.inl (sd 1)))))), (a20, .inl (T 0, 30, .inl (si 2))), (a21, .inl (T 1, 30, .inr (.inl (sl 2)))), (a22, .inl (T 2, 30, .inr (.inr (.inl (sf 2))))), (a23, .inl (T 3, 30, .inr (.inr (.inr (.inl (sd 2)))))), (a30, .inl (T 0, 30, .inl (si 3))), (a31, .inl (T 1, 30, .inr (.inl (sl 3)))), (a32, .inl (T 2, 30, .inr (.inr (.inl (sf 3))))), (a33, .inl (T 3, 30, .inr (.inr (.inr (.inl (sd 3))))))] hP hD [1, 2, 3, 4, 5, 6, 7, 8, 9, 10, 11, 12, 13, 14] [1, 2, 3, 4, 5, 6, 7, 8, 9, 10, 11, 12, 13, 14] rfl (by decide +kernel) rfl rfl rfl hk1 hP1
          clear hP1 hD1 hFc
          generalize H1 = H at hP hS ⊢
          refine lv_aload_n hx hb dX12_dues_54 rfl (lv_at hl 1 rfl) ?_
          refine va_get (D := D) (ci := 9) (v := .ref fa) (C := RX12) (T := TX12) (N := 11) hx hb hts in_X12_dues_X12 hown hE.1 hP 0 rfl rfl 7 (by decide +kernel) (hts (.fieldLink RX12 52 "ClauseBook" "falling" "LClauseBook$Falling;") (List.mem_of_getElem? (i := 3) rfl)) (fun _ h9 => h9) e0_7 dX12_dues_55 ?_
          refine va_get (D := D) (ci := 2) (v := .int n_31) (C := RX3) (T := TX3) (N := 7) hx hb hts in_X12_dues_X3 hown hE.1 hP 1 rfl rfl 5 (by decide +kernel) (hts (.fieldLink RX12 256 "ClauseBook$Falling" "much" "Z") (List.mem_of_getElem? (i := 4) rfl)) (fun _ h9 => h9) rfl dX12_dues_58 ?_
          refine lv_if_eq (tgt := 67) hx hb dX12_dues_61 (by decide +kernel) (fun c_35 => ?_) (fun c_35 => ?_)
          · rw [fa_eq] at c_35
            try rw [ti_0] at c_35
            refine lv_aload hx hb dX12_dues_67 (lv_at hl 0 rfl) ?_
            refine va_get (D := D) (ci := 6) (v := .int (sn 1)) (C := RX9) (T := TX9) (N := 6) hx hb hts in_X12_dues_X9 hown hE.1 hP 17 rfl rfl 1 (by decide +kernel) (hts (.fieldLink RX12 280 "ClauseBook$Sheet" "size" "I") (List.mem_of_getElem? (i := 5) rfl)) (fun _ h9 => h9) rfl dX12_dues_69 ?_
            refine lv_bipush (v := 7) hx hb dX12_dues_72 (by decide +kernel) ?_
            refine lv_icmp_ge (tgt := 80) hx hb dX12_dues_74 (by decide +kernel) (fun c_36 => ?_) (fun c_36 => ?_)
            · rw [fa_le] at c_36
              try rw [ti_7] at c_36
              refine lv_iconst (v := 0) hx hb dX12_dues_80 (by decide +kernel) ?_
              refine lv_istore (lv' := [(6, .int 0), (5, .ref t1), (0, .ref h0), (1, .int x1), (2, .int x2), (3, .int x3), (4, .int 1)]) hx hb dX12_dues_81 hl (by decide +kernel) rfl (fun ls hl => ?_)
              refine loopW (σ := (Int32) × (Nat → Int32) × (Nat → Int64) × (Nat → UInt32) × (Nat → UInt64)) (fun x9 ls H locs => lv_has ls 7 [(6, .int x9.1), (5, .ref t1), (0, .ref h0), (1, .int x1), (2, .int x2), (3, .int x3), (4, .int 1)] ∧ va_P D vwCl [(h0, .inr (9, fs0)), (fa, .inr (2, [.ref la, .ref cl, .ref wo, .ref on, .int n_30, .int n_31, .int x3])), (on, .inl (T 1, 7, .inr (.inl f_29))), (wo, .inr (8, [.ref la, .ref cl, .ref p0, .ref p1, .ref p4, .int n])), (la, .inr (5, [.int (l9 0), .int (l9 1), .int (l9 2), .int (l9 3), .int (l9 4), .int (l9 5), .int (l9 6)])), (cl, .inr (1, [.int n0, .ref c1, .ref c2, .ref c3, .ref c4, .ref c5, .ref c6, .ref c7])), (c1, .inl (T 0, 24, .inl f1)), (c2, .inl (T 0, 24, .inl f2)), (c3, .inl (T 0, 24, .inl f3)), (c4, .inl (T 0, 24, .inl f4)), (c5, .inl (T 0, 24, .inl f5)), (p0, .inl (T 1, 676, .inr (.inl f_32))), (p1, .inl (T 1, 676, .inr (.inl f_33))), (p4, .inl (T 0, 672, .inl f_34)), (c6, .inl (T 0, 24, .inl f6)), (h1, .inl (T 6, 4, .inr (.inr (.inr (.inr (va_up (va_up (va_up (va_up (fun _ => none) 0 (some t0)) 1 (some t1)) 2 (some t2)) 3 (some t3))))))), (t0, .inr (6, [.int (so 0), .int (sn 0), .ref a00, .ref a01, .ref a02, .ref a03])), (t1, .inr (6, [.int (so 1), .int (sn 1), .ref a10, .ref a11, .ref a12, .ref a13])), (t2, .inr (6, [.int (so 2), .int (sn 2), .ref a20, .ref a21, .ref a22, .ref a23])), (t3, .inr (6, [.int (so 3), .int (sn 3), .ref a30, .ref a31, .ref a32, .ref a33])), (a00, .inl (T 0, 30, .inl (si 0))), (a01, .inl (T 1, 30, .inr (.inl (sl 0)))), (a02, .inl (T 2, 30, .inr (.inr (.inl (sf 0))))), (a03, .inl (T 3, 30, .inr (.inr (.inr (.inl (sd 0)))))), (a10, .inl (T 0, 30, .inl x9.2.1)), (a11, .inl (T 1, 30, .inr (.inl x9.2.2.1))), (a12, .inl (T 2, 30, .inr (.inr (.inl x9.2.2.2.1)))), (a13, .inl (T 3, 30, .inr (.inr (.inr (.inl x9.2.2.2.2))))), (a20, .inl (T 0, 30, .inl (si 2))), (a21, .inl (T 1, 30, .inr (.inl (sl 2)))), (a22, .inl (T 2, 30, .inr (.inr (.inl (sf 2))))), (a23, .inl (T 3, 30, .inr (.inr (.inr (.inl (sd 2)))))), (a30, .inl (T 0, 30, .inl (si 3))), (a31, .inl (T 1, 30, .inr (.inl (sl 3)))), (a32, .inl (T 2, 30, .inr (.inr (.inl (sf 3))))), (a33, .inl (T 3, 30, .inr (.inr (.inr (.inl (sd 3))))))] H ∧ va_D A [(h0, .inr (9, fs0)), (fa, .inr (2, [.ref la, .ref cl, .ref wo, .ref on, .int n_30, .int n_31, .int x3])), (on, .inl (T 1, 7, .inr (.inl f_29))), (wo, .inr (8, [.ref la, .ref cl, .ref p0, .ref p1, .ref p4, .int n])), (la, .inr (5, [.int (l9 0), .int (l9 1), .int (l9 2), .int (l9 3), .int (l9 4), .int (l9 5), .int (l9 6)])), (cl, .inr (1, [.int n0, .ref c1, .ref c2, .ref c3, .ref c4, .ref c5, .ref c6, .ref c7])), (c1, .inl (T 0, 24, .inl f1)), (c2, .inl (T 0, 24, .inl f2)), (c3, .inl (T 0, 24, .inl f3)), (c4, .inl (T 0, 24, .inl f4)), (c5, .inl (T 0, 24, .inl f5)), (p0, .inl (T 1, 676, .inr (.inl f_32))), (p1, .inl (T 1, 676, .inr (.inl f_33))), (p4, .inl (T 0, 672, .inl f_34)), (c6, .inl (T 0, 24, .inl f6)), (h1, .inl (T 6, 4, .inr (.inr (.inr (.inr (va_up (va_up (va_up (va_up (fun _ => none) 0 (some t0)) 1 (some t1)) 2 (some t2)) 3 (some t3))))))), (t0, .inr (6, [.int (so 0), .int (sn 0), .ref a00, .ref a01, .ref a02, .ref a03])), (t1, .inr (6, [.int (so 1), .int (sn 1), .ref a10, .ref a11, .ref a12, .ref a13])), (t2, .inr (6, [.int (so 2), .int (sn 2), .ref a20, .ref a21, .ref a22, .ref a23])), (t3, .inr (6, [.int (so 3), .int (sn 3), .ref a30, .ref a31, .ref a32, .ref a33])), (a00, .inl (T 0, 30, .inl (si 0))), (a01, .inl (T 1, 30, .inr (.inl (sl 0)))), (a02, .inl (T 2, 30, .inr (.inr (.inl (sf 0))))), (a03, .inl (T 3, 30, .inr (.inr (.inr (.inl (sd 0)))))), (a10, .inl (T 0, 30, .inl x9.2.1)), (a11, .inl (T 1, 30, .inr (.inl x9.2.2.1))), (a12, .inl (T 2, 30, .inr (.inr (.inl x9.2.2.2.1)))), (a13, .inl (T 3, 30, .inr (.inr (.inr (.inl x9.2.2.2.2))))), (a20, .inl (T 0, 30, .inl (si 2))), (a21, .inl (T 1, 30, .inr (.inl (sl 2)))), (a22, .inl (T 2, 30, .inr (.inr (.inl (sf 2))))), (a23, .inl (T 3, 30, .inr (.inr (.inr (.inl (sd 2)))))), (a30, .inl (T 0, 30, .inl (si 3))), (a31, .inl (T 1, 30, .inr (.inl (sl 3)))), (a32, .inl (T 2, 30, .inr (.inr (.inl (sf 3))))), (a33, .inl (T 3, 30, .inr (.inr (.inr (.inl (sd 3))))))] ∧ va_S A s.heap H locs ∧ (0 ≤ x9.1.toInt)) (fun x9 => (7 - x9.1.toInt).toNat) (fun x9 ls H locs hI ih => ?_) (0, (si 1), (sl 1), (sf 1), (sd 1)) ls ⟨lv_sub hl [0, 1, 2, 3, 4, 5, 6] rfl, hP.sub [0, 1, 2, 3, 4, 5, 6, 7, 8, 9, 10, 11, 12, 13, 14, 15, 16, 17, 18, 19, 20, 21, 22, 23, 24, 25, 26, 27, 28, 29, 30, 31, 32, 33, 34, 35] rfl, hD.sub [0, 1, 2, 3, 4, 5, 6, 7, 8, 9, 10, 11, 12, 13, 14, 15, 16, 17, 18, 19, 20, 21, 22, 23, 24, 25, 26, 27, 28, 29, 30, 31, 32, 33, 34, 35] (by decide +kernel) rfl, hS, (by (try dsimp only); decide)⟩
              obtain ⟨tt, q0, q1, q2, q3⟩ := x9
              obtain ⟨hl, hP, hD, hS, hinv⟩ := hI
              have hl : lv_has ls 7 [(6, .int tt), (5, .ref t1), (0, .ref h0), (1, .int x1), (2, .int x2), (3, .int x3), (4, .int 1)] := hl
              have hP : va_P D vwCl [(h0, .inr (9, fs0)), (fa, .inr (2, [.ref la, .ref cl, .ref wo, .ref on, .int n_30, .int n_31, .int x3])), (on, .inl (T 1, 7, .inr (.inl f_29))), (wo, .inr (8, [.ref la, .ref cl, .ref p0, .ref p1, .ref p4, .int n])), (la, .inr (5, [.int (l9 0), .int (l9 1), .int (l9 2), .int (l9 3), .int (l9 4), .int (l9 5), .int (l9 6)])), (cl, .inr (1, [.int n0, .ref c1, .ref c2, .ref c3, .ref c4, .ref c5, .ref c6, .ref c7])), (c1, .inl (T 0, 24, .inl f1)), (c2, .inl (T 0, 24, .inl f2)), (c3, .inl (T 0, 24, .inl f3)), (c4, .inl (T 0, 24, .inl f4)), (c5, .inl (T 0, 24, .inl f5)), (p0, .inl (T 1, 676, .inr (.inl f_32))), (p1, .inl (T 1, 676, .inr (.inl f_33))), (p4, .inl (T 0, 672, .inl f_34)), (c6, .inl (T 0, 24, .inl f6)), (h1, .inl (T 6, 4, .inr (.inr (.inr (.inr (va_up (va_up (va_up (va_up (fun _ => none) 0 (some t0)) 1 (some t1)) 2 (some t2)) 3 (some t3))))))), (t0, .inr (6, [.int (so 0), .int (sn 0), .ref a00, .ref a01, .ref a02, .ref a03])), (t1, .inr (6, [.int (so 1), .int (sn 1), .ref a10, .ref a11, .ref a12, .ref a13])), (t2, .inr (6, [.int (so 2), .int (sn 2), .ref a20, .ref a21, .ref a22, .ref a23])), (t3, .inr (6, [.int (so 3), .int (sn 3), .ref a30, .ref a31, .ref a32, .ref a33])), (a00, .inl (T 0, 30, .inl (si 0))), (a01, .inl (T 1, 30, .inr (.inl (sl 0)))), (a02, .inl (T 2, 30, .inr (.inr (.inl (sf 0))))), (a03, .inl (T 3, 30, .inr (.inr (.inr (.inl (sd 0)))))), (a10, .inl (T 0, 30, .inl q0)), (a11, .inl (T 1, 30, .inr (.inl q1))), (a12, .inl (T 2, 30, .inr (.inr (.inl q2)))), (a13, .inl (T 3, 30, .inr (.inr (.inr (.inl q3))))), (a20, .inl (T 0, 30, .inl (si 2))), (a21, .inl (T 1, 30, .inr (.inl (sl 2)))), (a22, .inl (T 2, 30, .inr (.inr (.inl (sf 2))))), (a23, .inl (T 3, 30, .inr (.inr (.inr (.inl (sd 2)))))), (a30, .inl (T 0, 30, .inl (si 3))), (a31, .inl (T 1, 30, .inr (.inl (sl 3)))), (a32, .inl (T 2, 30, .inr (.inr (.inl (sf 3))))), (a33, .inl (T 3, 30, .inr (.inr (.inr (.inl (sd 3))))))] H := hP
              have hD : va_D A [(h0, .inr (9, fs0)), (fa, .inr (2, [.ref la, .ref cl, .ref wo, .ref on, .int n_30, .int n_31, .int x3])), (on, .inl (T 1, 7, .inr (.inl f_29))), (wo, .inr (8, [.ref la, .ref cl, .ref p0, .ref p1, .ref p4, .int n])), (la, .inr (5, [.int (l9 0), .int (l9 1), .int (l9 2), .int (l9 3), .int (l9 4), .int (l9 5), .int (l9 6)])), (cl, .inr (1, [.int n0, .ref c1, .ref c2, .ref c3, .ref c4, .ref c5, .ref c6, .ref c7])), (c1, .inl (T 0, 24, .inl f1)), (c2, .inl (T 0, 24, .inl f2)), (c3, .inl (T 0, 24, .inl f3)), (c4, .inl (T 0, 24, .inl f4)), (c5, .inl (T 0, 24, .inl f5)), (p0, .inl (T 1, 676, .inr (.inl f_32))), (p1, .inl (T 1, 676, .inr (.inl f_33))), (p4, .inl (T 0, 672, .inl f_34)), (c6, .inl (T 0, 24, .inl f6)), (h1, .inl (T 6, 4, .inr (.inr (.inr (.inr (va_up (va_up (va_up (va_up (fun _ => none) 0 (some t0)) 1 (some t1)) 2 (some t2)) 3 (some t3))))))), (t0, .inr (6, [.int (so 0), .int (sn 0), .ref a00, .ref a01, .ref a02, .ref a03])), (t1, .inr (6, [.int (so 1), .int (sn 1), .ref a10, .ref a11, .ref a12, .ref a13])), (t2, .inr (6, [.int (so 2), .int (sn 2), .ref a20, .ref a21, .ref a22, .ref a23])), (t3, .inr (6, [.int (so 3), .int (sn 3), .ref a30, .ref a31, .ref a32, .ref a33])), (a00, .inl (T 0, 30, .inl (si 0))), (a01, .inl (T 1, 30, .inr (.inl (sl 0)))), (a02, .inl (T 2, 30, .inr (.inr (.inl (sf 0))))), (a03, .inl (T 3, 30, .inr (.inr (.inr (.inl (sd 0)))))), (a10, .inl (T 0, 30, .inl q0)), (a11, .inl (T 1, 30, .inr (.inl q1))), (a12, .inl (T 2, 30, .inr (.inr (.inl q2)))), (a13, .inl (T 3, 30, .inr (.inr (.inr (.inl q3))))), (a20, .inl (T 0, 30, .inl (si 2))), (a21, .inl (T 1, 30, .inr (.inl (sl 2)))), (a22, .inl (T 2, 30, .inr (.inr (.inl (sf 2))))), (a23, .inl (T 3, 30, .inr (.inr (.inr (.inl (sd 2)))))), (a30, .inl (T 0, 30, .inl (si 3))), (a31, .inl (T 1, 30, .inr (.inl (sl 3)))), (a32, .inl (T 2, 30, .inr (.inr (.inl (sf 3))))), (a33, .inl (T 3, 30, .inr (.inr (.inr (.inl (sd 3))))))] := hD
              have hinv : 0 ≤ tt.toInt := hinv
              refine lv_iload hx hb dX12_dues_83 (lv_at hl 0 rfl) ?_
              refine lv_bipush (v := 7) hx hb dX12_dues_85 (by decide +kernel) ?_
              refine lv_icmp_ge (tgt := 119) hx hb dX12_dues_87 (by decide +kernel) (fun c_37 => ?_) (fun c_37 => ?_)
              · rw [fa_le] at c_37
                try rw [ti_7] at c_37
                refine lv_bipush (v := 7) hx hb dX12_dues_119 (by decide +kernel) ?_
                exact W.iret hx hb hr (fun t ht hW => ⟨⟨_, (f_29, n_30, n_31, f_32, f_33, f_34, x3, (fun k => [(si 0), q0, (si 2), (si 3)].getD k (si 0)), (fun k => [(sl 0), q1, (sl 2), (sl 3)].getD k (sl 0)), (fun k => [(sf 0), q2, (sf 2), (sf 3)].getD k (sf 0)), (fun k => [(sd 0), q3, (sd 2), (sd 3)].getD k (sd 0))), rfl, hst, by rw [ht]; exact hP.sub [0, 1, 2, 3, 4, 5, 6, 7, 8, 9, 10, 11, 12, 13, 14, 15, 16, 17, 18, 19, 20, 21, 22, 23, 24, 25, 26, 27, 28, 29, 30, 31, 32, 33, 34, 35] rfl, hD.sub [0, 1, 2, 3, 4, 5, 6, 7, 8, 9, 10, 11, 12, 13, 14, 15, 16, 17, 18, 19, 20, 21, 22, 23, 24, 25, 26, 27, 28, 29, 30, 31, 32, 33, 34, 35] (by decide +kernel) rfl⟩, hS.F ht⟩) hS.2.2 dX12_dues_121
              · rw [fa_le] at c_37
                try rw [ti_7] at c_37
                refine lv_aload hx hb dX12_dues_90 (lv_at hl 1 rfl) ?_
                refine lv_iload hx hb dX12_dues_92 (lv_at hl 0 rfl) ?_
                refine lv_aload_n hx hb dX12_dues_94 rfl (lv_at hl 2 rfl) ?_
                refine va_get (D := D) (ci := 9) (v := .ref fa) (C := RX12) (T := TX12) (N := 11) hx hb hts in_X12_dues_X12 hown hE.1 hP 0 rfl rfl 7 (by decide +kernel) (hts (.fieldLink RX12 52 "ClauseBook" "falling" "LClauseBook$Falling;") (List.mem_of_getElem? (i := 3) rfl)) (fun _ h9 => h9) e0_7 dX12_dues_95 ?_
                refine va_get (D := D) (ci := 2) (v := .ref on) (C := RX3) (T := TX3) (N := 7) hx hb hts in_X12_dues_X3 hown hE.1 hP 1 rfl rfl 3 (by decide +kernel) (hts (.fieldLink RX12 259 "ClauseBook$Falling" "on" "[J") (List.mem_of_getElem? (i := 6) rfl)) (fun _ h9 => h9) rfl dX12_dues_98 ?_
                refine lv_iload hx hb dX12_dues_101 (lv_at hl 0 rfl) ?_
                refine va_lald hx hb hE.1 hP 2 1 rfl rfl (by rw [vp_in_iff]; first | omega | (subst_vars; omega)) dX12_dues_103 ?_
                refine lv_topl (fun z_38 ez_38 => ?_)
                have hFc := va_free (wc := [(t1, .inr (6, [.int (so 1), .int (sn 1), .ref a10, .ref a11, .ref a12, .ref a13])), (a10, .inl (T 0, 30, .inl q0)), (a11, .inl (T 1, 30, .inr (.inl q1))), (a12, .inl (T 2, 30, .inr (.inr (.inl q2)))), (a13, .inl (T 3, 30, .inr (.inr (.inr (.inl q3)))))]) hD hS hA [17, 24, 25, 26, 27] rfl
                refine va_calli (va_runV (As := [.int tt, .long z_38]) (rest := []) ⟨hx, hb, hml, hown, hts⟩ (c_X9_store l D T _ t1 (so 1) (sn 1) a10 a11 a12 a13 q0 q1 q2 q3 tt z_38 (by rw [vp_in_iff]; omega)) (cwV 2 hts gX12_dues_X9_store rfl rfl rfl hv_X9_store ⟨Nat.le_of_ble_eq_true rfl, Nat.le_of_ble_eq_true rfl⟩) (pW_V (q := (RX9, TX9, 6)) (ci := 6) (q0 := 17) hP hE hD rfl rfl [17, 24, 25, 26, 27] (by decide +kernel) rfl rfl) rfl rfl hl.1 rfl (lv_room (Nat.le_of_ble_eq_true rfl)) dX12_dues_104 ⟨Nat.le_of_ble_eq_true rfl, Nat.le_of_ble_eq_true rfl⟩) hS (fun q _ h => hFc q h) hFc (fun r_39 u_40 t H1 locs ht hvm hr_39 hB hz1 hk1 hS => ?_)
                obtain ⟨f_41, f_42, f_43, f_44⟩ := u_40
                obtain ⟨hP1, hD1⟩ := hB
                rw [ht] at hP1
                obtain ⟨hP, hD⟩ := va_repl [(h0, .inr (9, fs0)), (fa, .inr (2, [.ref la, .ref cl, .ref wo, .ref on, .int n_30, .int n_31, .int x3])), (on, .inl (T 1, 7, .inr (.inl f_29))), (wo, .inr (8, [.ref la, .ref cl, .ref p0, .ref p1, .ref p4, .int n])), (la, .inr (5, [.int (l9 0), .int (l9 1), .int (l9 2), .int (l9 3), .int (l9 4), .int (l9 5), .int (l9 6)])), (cl, .inr (1, [.int n0, .ref c1, .ref c2, .ref c3, .ref c4, .ref c5, .ref c6, .ref c7])), (c1, .inl (T 0, 24, .inl f1)), (c2, .inl (T 0, 24, .inl f2)), (c3, .inl (T 0, 24, .inl f3)), (c4, .inl (T 0, 24, .inl f4)), (c5, .inl (T 0, 24, .inl f5)), (p0, .inl (T 1, 676, .inr (.inl f_32))), (p1, .inl (T 1, 676, .inr (.inl f_33))), (p4, .inl (T 0, 672, .inl f_34)), (c6, .inl (T 0, 24, .inl f6)), (h1, .inl (T 6, 4, .inr (.inr (.inr (.inr (va_up (va_up (va_up (va_up (fun _ => none) 0 (some t0)) 1 (some t1)) 2 (some t2)) 3 (some t3))))))), (t0, .inr (6, [.int (so 0), .int (sn 0), .ref a00, .ref a01, .ref a02, .ref a03])), (t1, .inr (6, [.int (so 1), .int (sn 1), .ref a10, .ref a11, .ref a12, .ref a13])), (t2, .inr (6, [.int (so 2), .int (sn 2), .ref a20, .ref a21, .ref a22, .ref a23])), (t3, .inr (6, [.int (so 3), .int (sn 3), .ref a30, .ref a31, .ref a32, .ref a33])), (a00, .inl (T 0, 30, .inl (si 0))), (a01, .inl (T 1, 30, .inr (.inl (sl 0)))), (a02, .inl (T 2, 30, .inr (.inr (.inl (sf 0))))), (a03, .inl (T 3, 30, .inr (.inr (.inr (.inl (sd 0)))))), (a10, .inl (T 0, 30, .inl f_41)), (a11, .inl (T 1, 30, .inr (.inl f_42))), (a12, .inl (T 2, 30, .inr (.inr (.inl f_43)))), (a13, .inl (T 3, 30, .inr (.inr (.inr (.inl f_44))))), (a20, .inl (T 0, 30, .inl (si 2))), (a21, .inl (T 1, 30, .inr (.inl (sl 2)))), (a22, .inl (T 2, 30, .inr (.inr (.inl (sf 2))))), (a23, .inl (T 3, 30, .inr (.inr (.inr (.inl (sd 2)))))), (a30, .inl (T 0, 30, .inl (si 3))), (a31, .inl (T 1, 30, .inr (.inl (sl 3)))), (a32, .inl (T 2, 30, .inr (.inr (.inl (sf 3))))), (a33, .inl (T 3, 30, .inr (.inr (.inr (.inl (sd 3))))))] hP hD [17, 24, 25, 26, 27] [17, 24, 25, 26, 27] rfl (by decide +kernel) rfl rfl rfl hk1 hP1
                clear hP1 hD1 hFc
                generalize H1 = H at hP hS ⊢
                refine lv_if_ne (tgt := 113) hx hb dX12_dues_107 (by decide +kernel) (fun c_45 => ?_) (fun c_45 => ?_)
                · rw [fa_eq] at c_45
                  try rw [ti_0] at c_45
                  obtain ⟨z_46, ez_46⟩ : ∃ y : Int32, y = tt + 1 := ⟨_, rfl⟩
                  refine lv_iinc (v := z_46) (lv' := [(6, .int z_46), (5, .ref t1), (0, .ref h0), (1, .int x1), (2, .int x2), (3, .int x3), (4, .int 1)]) hx hb dX12_dues_113 hl (k := 0) rfl (by rw [ez_46]; rfl) (by decide +kernel) rfl (fun ls hl => ?_)
                  refine lv_goto (tgt := 83) hx hb dX12_dues_116 (by decide +kernel) ?_
                  exact ih (z_46, f_41, f_42, f_43, f_44) ls _ _ ⟨lv_sub hl [0, 1, 2, 3, 4, 5, 6] rfl, hP.sub [0, 1, 2, 3, 4, 5, 6, 7, 8, 9, 10, 11, 12, 13, 14, 15, 16, 17, 18, 19, 20, 21, 22, 23, 24, 25, 26, 27, 28, 29, 30, 31, 32, 33, 34, 35] rfl, hD.sub [0, 1, 2, 3, 4, 5, 6, 7, 8, 9, 10, 11, 12, 13, 14, 15, 16, 17, 18, 19, 20, 21, 22, 23, 24, 25, 26, 27, 28, 29, 30, 31, 32, 33, 34, 35] (by decide +kernel) rfl, hS, (by subst_vars; (try dsimp only); rw [inc1 (i := tt) (n := 1000) (by omega) (by decide +kernel)]; omega)⟩ (by subst_vars; (try dsimp only); rw [inc1 (i := tt) (n := 1000) (by omega) (by decide +kernel)]; omega)
                · rw [fa_eq] at c_45
                  try rw [ti_0] at c_45
                  refine lv_bipush (v := (-5)) hx hb dX12_dues_110 (by decide +kernel) ?_
                  exact W.iret hx hb hr (fun t ht hW => ⟨⟨_, (f_29, n_30, n_31, f_32, f_33, f_34, x3, (fun k => [(si 0), f_41, (si 2), (si 3)].getD k (si 0)), (fun k => [(sl 0), f_42, (sl 2), (sl 3)].getD k (sl 0)), (fun k => [(sf 0), f_43, (sf 2), (sf 3)].getD k (sf 0)), (fun k => [(sd 0), f_44, (sd 2), (sd 3)].getD k (sd 0))), rfl, hst, by rw [ht]; exact hP.sub [0, 1, 2, 3, 4, 5, 6, 7, 8, 9, 10, 11, 12, 13, 14, 15, 16, 17, 18, 19, 20, 21, 22, 23, 24, 25, 26, 27, 28, 29, 30, 31, 32, 33, 34, 35] rfl, hD.sub [0, 1, 2, 3, 4, 5, 6, 7, 8, 9, 10, 11, 12, 13, 14, 15, 16, 17, 18, 19, 20, 21, 22, 23, 24, 25, 26, 27, 28, 29, 30, 31, 32, 33, 34, 35] (by decide +kernel) rfl⟩, hS.F ht⟩) hS.2.2 dX12_dues_112
            · rw [fa_le] at c_36
              try rw [ti_7] at c_36
              refine lv_bipush (v := (-12)) hx hb dX12_dues_77 (by decide +kernel) ?_
              exact W.iret hx hb hr (fun t ht hW => ⟨⟨_, (f_29, n_30, n_31, f_32, f_33, f_34, x3, (fun k => [(si 0), (si 1), (si 2), (si 3)].getD k (si 0)), (fun k => [(sl 0), (sl 1), (sl 2), (sl 3)].getD k (sl 0)), (fun k => [(sf 0), (sf 1), (sf 2), (sf 3)].getD k (sf 0)), (fun k => [(sd 0), (sd 1), (sd 2), (sd 3)].getD k (sd 0))), rfl, hst, by rw [ht]; exact hP.sub [0, 1, 2, 3, 4, 5, 6, 7, 8, 9, 10, 11, 12, 13, 14, 15, 16, 17, 18, 19, 20, 21, 22, 23, 24, 25, 26, 27, 28, 29, 30, 31, 32, 33, 34, 35] rfl, hD.sub [0, 1, 2, 3, 4, 5, 6, 7, 8, 9, 10, 11, 12, 13, 14, 15, 16, 17, 18, 19, 20, 21, 22, 23, 24, 25, 26, 27, 28, 29, 30, 31, 32, 33, 34, 35] (by decide +kernel) rfl⟩, hS.F ht⟩) hS.2.2 dX12_dues_79
          · rw [fa_eq] at c_35
            try rw [ti_0] at c_35
            refine lv_bipush (v := (-5)) hx hb dX12_dues_64 (by decide +kernel) ?_
            exact W.iret hx hb hr (fun t ht hW => ⟨⟨_, (f_29, n_30, n_31, f_32, f_33, f_34, x3, (fun k => [(si 0), (si 1), (si 2), (si 3)].getD k (si 0)), (fun k => [(sl 0), (sl 1), (sl 2), (sl 3)].getD k (sl 0)), (fun k => [(sf 0), (sf 1), (sf 2), (sf 3)].getD k (sf 0)), (fun k => [(sd 0), (sd 1), (sd 2), (sd 3)].getD k (sd 0))), rfl, hst, by rw [ht]; exact hP.sub [0, 1, 2, 3, 4, 5, 6, 7, 8, 9, 10, 11, 12, 13, 14, 15, 16, 17, 18, 19, 20, 21, 22, 23, 24, 25, 26, 27, 28, 29, 30, 31, 32, 33, 34, 35] rfl, hD.sub [0, 1, 2, 3, 4, 5, 6, 7, 8, 9, 10, 11, 12, 13, 14, 15, 16, 17, 18, 19, 20, 21, 22, 23, 24, 25, 26, 27, 28, 29, 30, 31, 32, 33, 34, 35] (by decide +kernel) rfl⟩, hS.F ht⟩) hS.2.2 dX12_dues_66
        · rw [fa_eq] at c_26
          try rw [ti_n1] at c_26
          refine lv_bipush (v := (-11)) hx hb dX12_dues_41 (by decide +kernel) ?_
          exact W.iret hx hb hr (fun t ht hW => ⟨⟨_, (fo, dy, mu, g0, g1, g4, pa, (fun k => [(si 0), (si 1), (si 2), (si 3)].getD k (si 0)), (fun k => [(sl 0), (sl 1), (sl 2), (sl 3)].getD k (sl 0)), (fun k => [(sf 0), (sf 1), (sf 2), (sf 3)].getD k (sf 0)), (fun k => [(sd 0), (sd 1), (sd 2), (sd 3)].getD k (sd 0))), rfl, hst, by rw [ht]; exact hP.sub [0, 1, 2, 3, 4, 5, 6, 7, 8, 9, 10, 11, 12, 13, 14, 15, 16, 17, 18, 19, 20, 21, 22, 23, 24, 25, 26, 27, 28, 29, 30, 31, 32, 33, 34, 35] rfl, hD.sub [0, 1, 2, 3, 4, 5, 6, 7, 8, 9, 10, 11, 12, 13, 14, 15, 16, 17, 18, 19, 20, 21, 22, 23, 24, 25, 26, 27, 28, 29, 30, 31, 32, 33, 34, 35] (by decide +kernel) rfl⟩, hS.F ht⟩) hS.2.2 dX12_dues_43
      · refine va_aldq hx hb hE.1 hP 15 6 rfl rfl (by unfold vp_in; decide) dX12_dues_29 ?_
        refine W.eq (g2 := F0 m 30 ls [.ref t2]) rfl ?_
        refine lv_astore (lv' := [(5, .ref t2), (0, .ref h0), (1, .int x1), (2, .int x2), (3, .int x3), (4, .int 2)]) hx hb dX12_dues_30 hl (by decide +kernel) rfl (fun ls hl => ?_)
        refine lv_aload hx hb dX12_dues_32 (lv_at hl 0 rfl) ?_
        refine va_get (D := D) (ci := 6) (v := .int (so 2)) (C := RX9) (T := TX9) (N := 6) hx hb hts in_X12_dues_X9 hown hE.1 hP 18 rfl rfl 0 (by decide +kernel) (hts (.fieldLink RX12 277 "ClauseBook$Sheet" "sort" "I") (List.mem_of_getElem? (i := 2) rfl)) (fun _ h9 => h9) rfl dX12_dues_34 ?_
        refine lv_iconst (v := (-1)) hx hb dX12_dues_37 (by decide +kernel) ?_
        refine lv_icmp_ne (tgt := 44) hx hb dX12_dues_38 (by decide +kernel) (fun c_47 => ?_) (fun c_47 => ?_)
        · rw [fa_eq] at c_47
          try rw [ti_n1] at c_47
          refine lv_aload_n hx hb dX12_dues_44 rfl (lv_at hl 1 rfl) ?_
          refine va_get (D := D) (ci := 9) (v := .ref fa) (C := RX12) (T := TX12) (N := 11) hx hb hts in_X12_dues_X12 hown hE.1 hP 0 rfl rfl 7 (by decide +kernel) (hts (.fieldLink RX12 52 "ClauseBook" "falling" "LClauseBook$Falling;") (List.mem_of_getElem? (i := 3) rfl)) (fun _ h9 => h9) e0_7 dX12_dues_45 ?_
          refine lv_iload_n hx hb dX12_dues_48 rfl (lv_at hl 2 rfl) ?_
          refine lv_iload_n hx hb dX12_dues_49 rfl (lv_at hl 3 rfl) ?_
          refine lv_iload_n hx hb dX12_dues_50 rfl (lv_at hl 4 rfl) ?_
          have hFc := va_free (wc := [(fa, .inr (2, [.ref la, .ref cl, .ref wo, .ref on, .int dy, .int mu, .int pa])), (on, .inl (T 1, 7, .inr (.inl fo))), (wo, .inr (8, [.ref la, .ref cl, .ref p0, .ref p1, .ref p4, .int n])), (la, .inr (5, [.int (l9 0), .int (l9 1), .int (l9 2), .int (l9 3), .int (l9 4), .int (l9 5), .int (l9 6)])), (cl, .inr (1, [.int n0, .ref c1, .ref c2, .ref c3, .ref c4, .ref c5, .ref c6, .ref c7])), (c1, .inl (T 0, 24, .inl f1)), (c2, .inl (T 0, 24, .inl f2)), (c3, .inl (T 0, 24, .inl f3)), (c4, .inl (T 0, 24, .inl f4)), (c5, .inl (T 0, 24, .inl f5)), (p0, .inl (T 1, 676, .inr (.inl g0))), (p1, .inl (T 1, 676, .inr (.inl g1))), (p4, .inl (T 0, 672, .inl g4)), (c6, .inl (T 0, 24, .inl f6))]) hD hS hA [1, 2, 3, 4, 5, 6, 7, 8, 9, 10, 11, 12, 13, 14] rfl
          refine va_callv (va_runV (As := [.int x1, .int x2, .int x3]) (rest := []) ⟨hx, hb, hml, hown, hts⟩ (c_X3_gather l D T ad sa av ta _ fa on dy mu pa fo wo la cl p0 p1 p4 n l9 n0 c1 c2 c3 c4 c5 c6 c7 f1 f2 f3 f4 f5 g0 g1 g4 f6 x1 x2 x3 (by omega) (by omega) (by omega) hok (by omega) hmm hlq) (cwV 3 hts gX12_dues_X3_gather rfl rfl rfl hv_X3_gather ⟨Nat.le_of_ble_eq_true rfl, Nat.le_of_ble_eq_true rfl⟩) (pWk_V (q := (RX3, TX3, 7)) (ci := 2) (q0 := 1) hP hE hD hV hS hFc rfl rfl [1, 2, 3, 4, 5, 6, 7, 8, 9, 10, 11, 12, 13, 14] (by decide +kernel) rfl rfl) rfl rfl hl.1 rfl (lv_room (Nat.le_of_ble_eq_true rfl)) dX12_dues_51 ⟨Nat.le_of_ble_eq_true rfl, Nat.le_of_ble_eq_true rfl⟩) hS (fun q _ h => hFc q h) hFc (fun u_49 t H1 locs ht hvm hr_48 hB hz1 hk1 hS => ?_)
          obtain ⟨f_50, n_51, n_52, f_53, f_54, f_55⟩ := u_49
          have hsfhr_48 : stW (VALW l9 f1 f2 f3 f4 f5) n0 n (fun _ => True) g0 g1 g4 f_53 f_54 f_55 := hr_48.2
          have hst : stW (VALW l9 f1 f2 f3 f4 f5) n0 n (fun _ => True) g0 g1 g4 f_53 f_54 f_55 := hst.tr hsfhr_48 (fun _ _ => trivial)
          have hmm : memW (VALW l9 f1 f2 f3 f4 f5) n0 n f_53 f_54 f_55 := hst.1
          have hgahr_48 : dusP l9 f1 f2 f3 f4 f5 f6 (VALW l9 f1 f2 f3 f4 f5) x3 x1 x2 ((f_50, n_51, n_52) : duS) := hr_48.1
          obtain ⟨hP1, hD1⟩ := hB
          rw [ht] at hP1
          obtain ⟨hP, hD⟩ := va_repl [(h0, .inr (9, fs0)), (fa, .inr (2, [.ref la, .ref cl, .ref wo, .ref on, .int n_51, .int n_52, .int x3])), (on, .inl (T 1, 7, .inr (.inl f_50))), (wo, .inr (8, [.ref la, .ref cl, .ref p0, .ref p1, .ref p4, .int n])), (la, .inr (5, [.int (l9 0), .int (l9 1), .int (l9 2), .int (l9 3), .int (l9 4), .int (l9 5), .int (l9 6)])), (cl, .inr (1, [.int n0, .ref c1, .ref c2, .ref c3, .ref c4, .ref c5, .ref c6, .ref c7])), (c1, .inl (T 0, 24, .inl f1)), (c2, .inl (T 0, 24, .inl f2)), (c3, .inl (T 0, 24, .inl f3)), (c4, .inl (T 0, 24, .inl f4)), (c5, .inl (T 0, 24, .inl f5)), (p0, .inl (T 1, 676, .inr (.inl f_53))), (p1, .inl (T 1, 676, .inr (.inl f_54))), (p4, .inl (T 0, 672, .inl f_55)), (c6, .inl (T 0, 24, .inl f6)), (h1, .inl (T 6, 4, .inr (.inr (.inr (.inr (va_up (va_up (va_up (va_up (fun _ => none) 0 (some t0)) 1 (some t1)) 2 (some t2)) 3 (some t3))))))), (t0, .inr (6, [.int (so 0), .int (sn 0), .ref a00, .ref a01, .ref a02, .ref a03])), (t1, .inr (6, [.int (so 1), .int (sn 1), .ref a10, .ref a11, .ref a12, .ref a13])), (t2, .inr (6, [.int (so 2), .int (sn 2), .ref a20, .ref a21, .ref a22, .ref a23])), (t3, .inr (6, [.int (so 3), .int (sn 3), .ref a30, .ref a31, .ref a32, .ref a33])), (a00, .inl (T 0, 30, .inl (si 0))), (a01, .inl (T 1, 30, .inr (.inl (sl 0)))), (a02, .inl (T 2, 30, .inr (.inr (.inl (sf 0))))), (a03, .inl (T 3, 30, .inr (.inr (.inr (.inl (sd 0)))))), (a10, .inl (T 0, 30, .inl (si 1))), (a11, .inl (T 1, 30, .inr (.inl (sl 1)))), (a12, .inl (T 2, 30, .inr (.inr (.inl (sf 1))))), (a13, .inl (T 3, 30, .inr (.inr (.inr (.inl (sd 1)))))), (a20, .inl (T 0, 30, .inl (si 2))), (a21, .inl (T 1, 30, .inr (.inl (sl 2)))), (a22, .inl (T 2, 30, .inr (.inr (.inl (sf 2))))), (a23, .inl (T 3, 30, .inr (.inr (.inr (.inl (sd 2)))))), (a30, .inl (T 0, 30, .inl (si 3))), (a31, .inl (T 1, 30, .inr (.inl (sl 3)))), (a32, .inl (T 2, 30, .inr (.inr (.inl (sf 3))))), (a33, .inl (T 3, 30, .inr (.inr (.inr (.inl (sd 3))))))] hP hD [1, 2, 3, 4, 5, 6, 7, 8, 9, 10, 11, 12, 13, 14] [1, 2, 3, 4, 5, 6, 7, 8, 9, 10, 11, 12, 13, 14] rfl (by decide +kernel) rfl rfl rfl hk1 hP1
          clear hP1 hD1 hFc
          generalize H1 = H at hP hS ⊢
          refine lv_aload_n hx hb dX12_dues_54 rfl (lv_at hl 1 rfl) ?_
          refine va_get (D := D) (ci := 9) (v := .ref fa) (C := RX12) (T := TX12) (N := 11) hx hb hts in_X12_dues_X12 hown hE.1 hP 0 rfl rfl 7 (by decide +kernel) (hts (.fieldLink RX12 52 "ClauseBook" "falling" "LClauseBook$Falling;") (List.mem_of_getElem? (i := 3) rfl)) (fun _ h9 => h9) e0_7 dX12_dues_55 ?_
          refine va_get (D := D) (ci := 2) (v := .int n_52) (C := RX3) (T := TX3) (N := 7) hx hb hts in_X12_dues_X3 hown hE.1 hP 1 rfl rfl 5 (by decide +kernel) (hts (.fieldLink RX12 256 "ClauseBook$Falling" "much" "Z") (List.mem_of_getElem? (i := 4) rfl)) (fun _ h9 => h9) rfl dX12_dues_58 ?_
          refine lv_if_eq (tgt := 67) hx hb dX12_dues_61 (by decide +kernel) (fun c_56 => ?_) (fun c_56 => ?_)
          · rw [fa_eq] at c_56
            try rw [ti_0] at c_56
            refine lv_aload hx hb dX12_dues_67 (lv_at hl 0 rfl) ?_
            refine va_get (D := D) (ci := 6) (v := .int (sn 2)) (C := RX9) (T := TX9) (N := 6) hx hb hts in_X12_dues_X9 hown hE.1 hP 18 rfl rfl 1 (by decide +kernel) (hts (.fieldLink RX12 280 "ClauseBook$Sheet" "size" "I") (List.mem_of_getElem? (i := 5) rfl)) (fun _ h9 => h9) rfl dX12_dues_69 ?_
            refine lv_bipush (v := 7) hx hb dX12_dues_72 (by decide +kernel) ?_
            refine lv_icmp_ge (tgt := 80) hx hb dX12_dues_74 (by decide +kernel) (fun c_57 => ?_) (fun c_57 => ?_)
            · rw [fa_le] at c_57
              try rw [ti_7] at c_57
              refine lv_iconst (v := 0) hx hb dX12_dues_80 (by decide +kernel) ?_
              refine lv_istore (lv' := [(6, .int 0), (5, .ref t2), (0, .ref h0), (1, .int x1), (2, .int x2), (3, .int x3), (4, .int 2)]) hx hb dX12_dues_81 hl (by decide +kernel) rfl (fun ls hl => ?_)
              refine loopW (σ := (Int32) × (Nat → Int32) × (Nat → Int64) × (Nat → UInt32) × (Nat → UInt64)) (fun x9 ls H locs => lv_has ls 7 [(6, .int x9.1), (5, .ref t2), (0, .ref h0), (1, .int x1), (2, .int x2), (3, .int x3), (4, .int 2)] ∧ va_P D vwCl [(h0, .inr (9, fs0)), (fa, .inr (2, [.ref la, .ref cl, .ref wo, .ref on, .int n_51, .int n_52, .int x3])), (on, .inl (T 1, 7, .inr (.inl f_50))), (wo, .inr (8, [.ref la, .ref cl, .ref p0, .ref p1, .ref p4, .int n])), (la, .inr (5, [.int (l9 0), .int (l9 1), .int (l9 2), .int (l9 3), .int (l9 4), .int (l9 5), .int (l9 6)])), (cl, .inr (1, [.int n0, .ref c1, .ref c2, .ref c3, .ref c4, .ref c5, .ref c6, .ref c7])), (c1, .inl (T 0, 24, .inl f1)), (c2, .inl (T 0, 24, .inl f2)), (c3, .inl (T 0, 24, .inl f3)), (c4, .inl (T 0, 24, .inl f4)), (c5, .inl (T 0, 24, .inl f5)), (p0, .inl (T 1, 676, .inr (.inl f_53))), (p1, .inl (T 1, 676, .inr (.inl f_54))), (p4, .inl (T 0, 672, .inl f_55)), (c6, .inl (T 0, 24, .inl f6)), (h1, .inl (T 6, 4, .inr (.inr (.inr (.inr (va_up (va_up (va_up (va_up (fun _ => none) 0 (some t0)) 1 (some t1)) 2 (some t2)) 3 (some t3))))))), (t0, .inr (6, [.int (so 0), .int (sn 0), .ref a00, .ref a01, .ref a02, .ref a03])), (t1, .inr (6, [.int (so 1), .int (sn 1), .ref a10, .ref a11, .ref a12, .ref a13])), (t2, .inr (6, [.int (so 2), .int (sn 2), .ref a20, .ref a21, .ref a22, .ref a23])), (t3, .inr (6, [.int (so 3), .int (sn 3), .ref a30, .ref a31, .ref a32, .ref a33])), (a00, .inl (T 0, 30, .inl (si 0))), (a01, .inl (T 1, 30, .inr (.inl (sl 0)))), (a02, .inl (T 2, 30, .inr (.inr (.inl (sf 0))))), (a03, .inl (T 3, 30, .inr (.inr (.inr (.inl (sd 0)))))), (a10, .inl (T 0, 30, .inl (si 1))), (a11, .inl (T 1, 30, .inr (.inl (sl 1)))), (a12, .inl (T 2, 30, .inr (.inr (.inl (sf 1))))), (a13, .inl (T 3, 30, .inr (.inr (.inr (.inl (sd 1)))))), (a20, .inl (T 0, 30, .inl x9.2.1)), (a21, .inl (T 1, 30, .inr (.inl x9.2.2.1))), (a22, .inl (T 2, 30, .inr (.inr (.inl x9.2.2.2.1)))), (a23, .inl (T 3, 30, .inr (.inr (.inr (.inl x9.2.2.2.2))))), (a30, .inl (T 0, 30, .inl (si 3))), (a31, .inl (T 1, 30, .inr (.inl (sl 3)))), (a32, .inl (T 2, 30, .inr (.inr (.inl (sf 3))))), (a33, .inl (T 3, 30, .inr (.inr (.inr (.inl (sd 3))))))] H ∧ va_D A [(h0, .inr (9, fs0)), (fa, .inr (2, [.ref la, .ref cl, .ref wo, .ref on, .int n_51, .int n_52, .int x3])), (on, .inl (T 1, 7, .inr (.inl f_50))), (wo, .inr (8, [.ref la, .ref cl, .ref p0, .ref p1, .ref p4, .int n])), (la, .inr (5, [.int (l9 0), .int (l9 1), .int (l9 2), .int (l9 3), .int (l9 4), .int (l9 5), .int (l9 6)])), (cl, .inr (1, [.int n0, .ref c1, .ref c2, .ref c3, .ref c4, .ref c5, .ref c6, .ref c7])), (c1, .inl (T 0, 24, .inl f1)), (c2, .inl (T 0, 24, .inl f2)), (c3, .inl (T 0, 24, .inl f3)), (c4, .inl (T 0, 24, .inl f4)), (c5, .inl (T 0, 24, .inl f5)), (p0, .inl (T 1, 676, .inr (.inl f_53))), (p1, .inl (T 1, 676, .inr (.inl f_54))), (p4, .inl (T 0, 672, .inl f_55)), (c6, .inl (T 0, 24, .inl f6)), (h1, .inl (T 6, 4, .inr (.inr (.inr (.inr (va_up (va_up (va_up (va_up (fun _ => none) 0 (some t0)) 1 (some t1)) 2 (some t2)) 3 (some t3))))))), (t0, .inr (6, [.int (so 0), .int (sn 0), .ref a00, .ref a01, .ref a02, .ref a03])), (t1, .inr (6, [.int (so 1), .int (sn 1), .ref a10, .ref a11, .ref a12, .ref a13])), (t2, .inr (6, [.int (so 2), .int (sn 2), .ref a20, .ref a21, .ref a22, .ref a23])), (t3, .inr (6, [.int (so 3), .int (sn 3), .ref a30, .ref a31, .ref a32, .ref a33])), (a00, .inl (T 0, 30, .inl (si 0))), (a01, .inl (T 1, 30, .inr (.inl (sl 0)))), (a02, .inl (T 2, 30, .inr (.inr (.inl (sf 0))))), (a03, .inl (T 3, 30, .inr (.inr (.inr (.inl (sd 0)))))), (a10, .inl (T 0, 30, .inl (si 1))), (a11, .inl (T 1, 30, .inr (.inl (sl 1)))), (a12, .inl (T 2, 30, .inr (.inr (.inl (sf 1))))), (a13, .inl (T 3, 30, .inr (.inr (.inr (.inl (sd 1)))))), (a20, .inl (T 0, 30, .inl x9.2.1)), (a21, .inl (T 1, 30, .inr (.inl x9.2.2.1))), (a22, .inl (T 2, 30, .inr (.inr (.inl x9.2.2.2.1)))), (a23, .inl (T 3, 30, .inr (.inr (.inr (.inl x9.2.2.2.2))))), (a30, .inl (T 0, 30, .inl (si 3))), (a31, .inl (T 1, 30, .inr (.inl (sl 3)))), (a32, .inl (T 2, 30, .inr (.inr (.inl (sf 3))))), (a33, .inl (T 3, 30, .inr (.inr (.inr (.inl (sd 3))))))] ∧ va_S A s.heap H locs ∧ (0 ≤ x9.1.toInt)) (fun x9 => (7 - x9.1.toInt).toNat) (fun x9 ls H locs hI ih => ?_) (0, (si 2), (sl 2), (sf 2), (sd 2)) ls ⟨lv_sub hl [0, 1, 2, 3, 4, 5, 6] rfl, hP.sub [0, 1, 2, 3, 4, 5, 6, 7, 8, 9, 10, 11, 12, 13, 14, 15, 16, 17, 18, 19, 20, 21, 22, 23, 24, 25, 26, 27, 28, 29, 30, 31, 32, 33, 34, 35] rfl, hD.sub [0, 1, 2, 3, 4, 5, 6, 7, 8, 9, 10, 11, 12, 13, 14, 15, 16, 17, 18, 19, 20, 21, 22, 23, 24, 25, 26, 27, 28, 29, 30, 31, 32, 33, 34, 35] (by decide +kernel) rfl, hS, (by (try dsimp only); decide)⟩
              obtain ⟨tt, q0, q1, q2, q3⟩ := x9
              obtain ⟨hl, hP, hD, hS, hinv⟩ := hI
              have hl : lv_has ls 7 [(6, .int tt), (5, .ref t2), (0, .ref h0), (1, .int x1), (2, .int x2), (3, .int x3), (4, .int 2)] := hl
              have hP : va_P D vwCl [(h0, .inr (9, fs0)), (fa, .inr (2, [.ref la, .ref cl, .ref wo, .ref on, .int n_51, .int n_52, .int x3])), (on, .inl (T 1, 7, .inr (.inl f_50))), (wo, .inr (8, [.ref la, .ref cl, .ref p0, .ref p1, .ref p4, .int n])), (la, .inr (5, [.int (l9 0), .int (l9 1), .int (l9 2), .int (l9 3), .int (l9 4), .int (l9 5), .int (l9 6)])), (cl, .inr (1, [.int n0, .ref c1, .ref c2, .ref c3, .ref c4, .ref c5, .ref c6, .ref c7])), (c1, .inl (T 0, 24, .inl f1)), (c2, .inl (T 0, 24, .inl f2)), (c3, .inl (T 0, 24, .inl f3)), (c4, .inl (T 0, 24, .inl f4)), (c5, .inl (T 0, 24, .inl f5)), (p0, .inl (T 1, 676, .inr (.inl f_53))), (p1, .inl (T 1, 676, .inr (.inl f_54))), (p4, .inl (T 0, 672, .inl f_55)), (c6, .inl (T 0, 24, .inl f6)), (h1, .inl (T 6, 4, .inr (.inr (.inr (.inr (va_up (va_up (va_up (va_up (fun _ => none) 0 (some t0)) 1 (some t1)) 2 (some t2)) 3 (some t3))))))), (t0, .inr (6, [.int (so 0), .int (sn 0), .ref a00, .ref a01, .ref a02, .ref a03])), (t1, .inr (6, [.int (so 1), .int (sn 1), .ref a10, .ref a11, .ref a12, .ref a13])), (t2, .inr (6, [.int (so 2), .int (sn 2), .ref a20, .ref a21, .ref a22, .ref a23])), (t3, .inr (6, [.int (so 3), .int (sn 3), .ref a30, .ref a31, .ref a32, .ref a33])), (a00, .inl (T 0, 30, .inl (si 0))), (a01, .inl (T 1, 30, .inr (.inl (sl 0)))), (a02, .inl (T 2, 30, .inr (.inr (.inl (sf 0))))), (a03, .inl (T 3, 30, .inr (.inr (.inr (.inl (sd 0)))))), (a10, .inl (T 0, 30, .inl (si 1))), (a11, .inl (T 1, 30, .inr (.inl (sl 1)))), (a12, .inl (T 2, 30, .inr (.inr (.inl (sf 1))))), (a13, .inl (T 3, 30, .inr (.inr (.inr (.inl (sd 1)))))), (a20, .inl (T 0, 30, .inl q0)), (a21, .inl (T 1, 30, .inr (.inl q1))), (a22, .inl (T 2, 30, .inr (.inr (.inl q2)))), (a23, .inl (T 3, 30, .inr (.inr (.inr (.inl q3))))), (a30, .inl (T 0, 30, .inl (si 3))), (a31, .inl (T 1, 30, .inr (.inl (sl 3)))), (a32, .inl (T 2, 30, .inr (.inr (.inl (sf 3))))), (a33, .inl (T 3, 30, .inr (.inr (.inr (.inl (sd 3))))))] H := hP
              have hD : va_D A [(h0, .inr (9, fs0)), (fa, .inr (2, [.ref la, .ref cl, .ref wo, .ref on, .int n_51, .int n_52, .int x3])), (on, .inl (T 1, 7, .inr (.inl f_50))), (wo, .inr (8, [.ref la, .ref cl, .ref p0, .ref p1, .ref p4, .int n])), (la, .inr (5, [.int (l9 0), .int (l9 1), .int (l9 2), .int (l9 3), .int (l9 4), .int (l9 5), .int (l9 6)])), (cl, .inr (1, [.int n0, .ref c1, .ref c2, .ref c3, .ref c4, .ref c5, .ref c6, .ref c7])), (c1, .inl (T 0, 24, .inl f1)), (c2, .inl (T 0, 24, .inl f2)), (c3, .inl (T 0, 24, .inl f3)), (c4, .inl (T 0, 24, .inl f4)), (c5, .inl (T 0, 24, .inl f5)), (p0, .inl (T 1, 676, .inr (.inl f_53))), (p1, .inl (T 1, 676, .inr (.inl f_54))), (p4, .inl (T 0, 672, .inl f_55)), (c6, .inl (T 0, 24, .inl f6)), (h1, .inl (T 6, 4, .inr (.inr (.inr (.inr (va_up (va_up (va_up (va_up (fun _ => none) 0 (some t0)) 1 (some t1)) 2 (some t2)) 3 (some t3))))))), (t0, .inr (6, [.int (so 0), .int (sn 0), .ref a00, .ref a01, .ref a02, .ref a03])), (t1, .inr (6, [.int (so 1), .int (sn 1), .ref a10, .ref a11, .ref a12, .ref a13])), (t2, .inr (6, [.int (so 2), .int (sn 2), .ref a20, .ref a21, .ref a22, .ref a23])), (t3, .inr (6, [.int (so 3), .int (sn 3), .ref a30, .ref a31, .ref a32, .ref a33])), (a00, .inl (T 0, 30, .inl (si 0))), (a01, .inl (T 1, 30, .inr (.inl (sl 0)))), (a02, .inl (T 2, 30, .inr (.inr (.inl (sf 0))))), (a03, .inl (T 3, 30, .inr (.inr (.inr (.inl (sd 0)))))), (a10, .inl (T 0, 30, .inl (si 1))), (a11, .inl (T 1, 30, .inr (.inl (sl 1)))), (a12, .inl (T 2, 30, .inr (.inr (.inl (sf 1))))), (a13, .inl (T 3, 30, .inr (.inr (.inr (.inl (sd 1)))))), (a20, .inl (T 0, 30, .inl q0)), (a21, .inl (T 1, 30, .inr (.inl q1))), (a22, .inl (T 2, 30, .inr (.inr (.inl q2)))), (a23, .inl (T 3, 30, .inr (.inr (.inr (.inl q3))))), (a30, .inl (T 0, 30, .inl (si 3))), (a31, .inl (T 1, 30, .inr (.inl (sl 3)))), (a32, .inl (T 2, 30, .inr (.inr (.inl (sf 3))))), (a33, .inl (T 3, 30, .inr (.inr (.inr (.inl (sd 3))))))] := hD
              have hinv : 0 ≤ tt.toInt := hinv
              refine lv_iload hx hb dX12_dues_83 (lv_at hl 0 rfl) ?_
              refine lv_bipush (v := 7) hx hb dX12_dues_85 (by decide +kernel) ?_
              refine lv_icmp_ge (tgt := 119) hx hb dX12_dues_87 (by decide +kernel) (fun c_58 => ?_) (fun c_58 => ?_)
              · rw [fa_le] at c_58
                try rw [ti_7] at c_58
                refine lv_bipush (v := 7) hx hb dX12_dues_119 (by decide +kernel) ?_
                exact W.iret hx hb hr (fun t ht hW => ⟨⟨_, (f_50, n_51, n_52, f_53, f_54, f_55, x3, (fun k => [(si 0), (si 1), q0, (si 3)].getD k (si 0)), (fun k => [(sl 0), (sl 1), q1, (sl 3)].getD k (sl 0)), (fun k => [(sf 0), (sf 1), q2, (sf 3)].getD k (sf 0)), (fun k => [(sd 0), (sd 1), q3, (sd 3)].getD k (sd 0))), rfl, hst, by rw [ht]; exact hP.sub [0, 1, 2, 3, 4, 5, 6, 7, 8, 9, 10, 11, 12, 13, 14, 15, 16, 17, 18, 19, 20, 21, 22, 23, 24, 25, 26, 27, 28, 29, 30, 31, 32, 33, 34, 35] rfl, hD.sub [0, 1, 2, 3, 4, 5, 6, 7, 8, 9, 10, 11, 12, 13, 14, 15, 16, 17, 18, 19, 20, 21, 22, 23, 24, 25, 26, 27, 28, 29, 30, 31, 32, 33, 34, 35] (by decide +kernel) rfl⟩, hS.F ht⟩) hS.2.2 dX12_dues_121
              · rw [fa_le] at c_58
                try rw [ti_7] at c_58
                refine lv_aload hx hb dX12_dues_90 (lv_at hl 1 rfl) ?_
                refine lv_iload hx hb dX12_dues_92 (lv_at hl 0 rfl) ?_
                refine lv_aload_n hx hb dX12_dues_94 rfl (lv_at hl 2 rfl) ?_
                refine va_get (D := D) (ci := 9) (v := .ref fa) (C := RX12) (T := TX12) (N := 11) hx hb hts in_X12_dues_X12 hown hE.1 hP 0 rfl rfl 7 (by decide +kernel) (hts (.fieldLink RX12 52 "ClauseBook" "falling" "LClauseBook$Falling;") (List.mem_of_getElem? (i := 3) rfl)) (fun _ h9 => h9) e0_7 dX12_dues_95 ?_
                refine va_get (D := D) (ci := 2) (v := .ref on) (C := RX3) (T := TX3) (N := 7) hx hb hts in_X12_dues_X3 hown hE.1 hP 1 rfl rfl 3 (by decide +kernel) (hts (.fieldLink RX12 259 "ClauseBook$Falling" "on" "[J") (List.mem_of_getElem? (i := 6) rfl)) (fun _ h9 => h9) rfl dX12_dues_98 ?_
                refine lv_iload hx hb dX12_dues_101 (lv_at hl 0 rfl) ?_
                refine va_lald hx hb hE.1 hP 2 1 rfl rfl (by rw [vp_in_iff]; first | omega | (subst_vars; omega)) dX12_dues_103 ?_
                refine lv_topl (fun z_59 ez_59 => ?_)
                have hFc := va_free (wc := [(t2, .inr (6, [.int (so 2), .int (sn 2), .ref a20, .ref a21, .ref a22, .ref a23])), (a20, .inl (T 0, 30, .inl q0)), (a21, .inl (T 1, 30, .inr (.inl q1))), (a22, .inl (T 2, 30, .inr (.inr (.inl q2)))), (a23, .inl (T 3, 30, .inr (.inr (.inr (.inl q3)))))]) hD hS hA [18, 28, 29, 30, 31] rfl
                refine va_calli (va_runV (As := [.int tt, .long z_59]) (rest := []) ⟨hx, hb, hml, hown, hts⟩ (c_X9_store l D T _ t2 (so 2) (sn 2) a20 a21 a22 a23 q0 q1 q2 q3 tt z_59 (by rw [vp_in_iff]; omega)) (cwV 2 hts gX12_dues_X9_store rfl rfl rfl hv_X9_store ⟨Nat.le_of_ble_eq_true rfl, Nat.le_of_ble_eq_true rfl⟩) (pW_V (q := (RX9, TX9, 6)) (ci := 6) (q0 := 18) hP hE hD rfl rfl [18, 28, 29, 30, 31] (by decide +kernel) rfl rfl) rfl rfl hl.1 rfl (lv_room (Nat.le_of_ble_eq_true rfl)) dX12_dues_104 ⟨Nat.le_of_ble_eq_true rfl, Nat.le_of_ble_eq_true rfl⟩) hS (fun q _ h => hFc q h) hFc (fun r_60 u_61 t H1 locs ht hvm hr_60 hB hz1 hk1 hS => ?_)
                obtain ⟨f_62, f_63, f_64, f_65⟩ := u_61
                obtain ⟨hP1, hD1⟩ := hB
                rw [ht] at hP1
                obtain ⟨hP, hD⟩ := va_repl [(h0, .inr (9, fs0)), (fa, .inr (2, [.ref la, .ref cl, .ref wo, .ref on, .int n_51, .int n_52, .int x3])), (on, .inl (T 1, 7, .inr (.inl f_50))), (wo, .inr (8, [.ref la, .ref cl, .ref p0, .ref p1, .ref p4, .int n])), (la, .inr (5, [.int (l9 0), .int (l9 1), .int (l9 2), .int (l9 3), .int (l9 4), .int (l9 5), .int (l9 6)])), (cl, .inr (1, [.int n0, .ref c1, .ref c2, .ref c3, .ref c4, .ref c5, .ref c6, .ref c7])), (c1, .inl (T 0, 24, .inl f1)), (c2, .inl (T 0, 24, .inl f2)), (c3, .inl (T 0, 24, .inl f3)), (c4, .inl (T 0, 24, .inl f4)), (c5, .inl (T 0, 24, .inl f5)), (p0, .inl (T 1, 676, .inr (.inl f_53))), (p1, .inl (T 1, 676, .inr (.inl f_54))), (p4, .inl (T 0, 672, .inl f_55)), (c6, .inl (T 0, 24, .inl f6)), (h1, .inl (T 6, 4, .inr (.inr (.inr (.inr (va_up (va_up (va_up (va_up (fun _ => none) 0 (some t0)) 1 (some t1)) 2 (some t2)) 3 (some t3))))))), (t0, .inr (6, [.int (so 0), .int (sn 0), .ref a00, .ref a01, .ref a02, .ref a03])), (t1, .inr (6, [.int (so 1), .int (sn 1), .ref a10, .ref a11, .ref a12, .ref a13])), (t2, .inr (6, [.int (so 2), .int (sn 2), .ref a20, .ref a21, .ref a22, .ref a23])), (t3, .inr (6, [.int (so 3), .int (sn 3), .ref a30, .ref a31, .ref a32, .ref a33])), (a00, .inl (T 0, 30, .inl (si 0))), (a01, .inl (T 1, 30, .inr (.inl (sl 0)))), (a02, .inl (T 2, 30, .inr (.inr (.inl (sf 0))))), (a03, .inl (T 3, 30, .inr (.inr (.inr (.inl (sd 0)))))), (a10, .inl (T 0, 30, .inl (si 1))), (a11, .inl (T 1, 30, .inr (.inl (sl 1)))), (a12, .inl (T 2, 30, .inr (.inr (.inl (sf 1))))), (a13, .inl (T 3, 30, .inr (.inr (.inr (.inl (sd 1)))))), (a20, .inl (T 0, 30, .inl f_62)), (a21, .inl (T 1, 30, .inr (.inl f_63))), (a22, .inl (T 2, 30, .inr (.inr (.inl f_64)))), (a23, .inl (T 3, 30, .inr (.inr (.inr (.inl f_65))))), (a30, .inl (T 0, 30, .inl (si 3))), (a31, .inl (T 1, 30, .inr (.inl (sl 3)))), (a32, .inl (T 2, 30, .inr (.inr (.inl (sf 3))))), (a33, .inl (T 3, 30, .inr (.inr (.inr (.inl (sd 3))))))] hP hD [18, 28, 29, 30, 31] [18, 28, 29, 30, 31] rfl (by decide +kernel) rfl rfl rfl hk1 hP1
                clear hP1 hD1 hFc
                generalize H1 = H at hP hS ⊢
                refine lv_if_ne (tgt := 113) hx hb dX12_dues_107 (by decide +kernel) (fun c_66 => ?_) (fun c_66 => ?_)
                · rw [fa_eq] at c_66
                  try rw [ti_0] at c_66
                  obtain ⟨z_67, ez_67⟩ : ∃ y : Int32, y = tt + 1 := ⟨_, rfl⟩
                  refine lv_iinc (v := z_67) (lv' := [(6, .int z_67), (5, .ref t2), (0, .ref h0), (1, .int x1), (2, .int x2), (3, .int x3), (4, .int 2)]) hx hb dX12_dues_113 hl (k := 0) rfl (by rw [ez_67]; rfl) (by decide +kernel) rfl (fun ls hl => ?_)
                  refine lv_goto (tgt := 83) hx hb dX12_dues_116 (by decide +kernel) ?_
                  exact ih (z_67, f_62, f_63, f_64, f_65) ls _ _ ⟨lv_sub hl [0, 1, 2, 3, 4, 5, 6] rfl, hP.sub [0, 1, 2, 3, 4, 5, 6, 7, 8, 9, 10, 11, 12, 13, 14, 15, 16, 17, 18, 19, 20, 21, 22, 23, 24, 25, 26, 27, 28, 29, 30, 31, 32, 33, 34, 35] rfl, hD.sub [0, 1, 2, 3, 4, 5, 6, 7, 8, 9, 10, 11, 12, 13, 14, 15, 16, 17, 18, 19, 20, 21, 22, 23, 24, 25, 26, 27, 28, 29, 30, 31, 32, 33, 34, 35] (by decide +kernel) rfl, hS, (by subst_vars; (try dsimp only); rw [inc1 (i := tt) (n := 1000) (by omega) (by decide +kernel)]; omega)⟩ (by subst_vars; (try dsimp only); rw [inc1 (i := tt) (n := 1000) (by omega) (by decide +kernel)]; omega)
                · rw [fa_eq] at c_66
                  try rw [ti_0] at c_66
                  refine lv_bipush (v := (-5)) hx hb dX12_dues_110 (by decide +kernel) ?_
                  exact W.iret hx hb hr (fun t ht hW => ⟨⟨_, (f_50, n_51, n_52, f_53, f_54, f_55, x3, (fun k => [(si 0), (si 1), f_62, (si 3)].getD k (si 0)), (fun k => [(sl 0), (sl 1), f_63, (sl 3)].getD k (sl 0)), (fun k => [(sf 0), (sf 1), f_64, (sf 3)].getD k (sf 0)), (fun k => [(sd 0), (sd 1), f_65, (sd 3)].getD k (sd 0))), rfl, hst, by rw [ht]; exact hP.sub [0, 1, 2, 3, 4, 5, 6, 7, 8, 9, 10, 11, 12, 13, 14, 15, 16, 17, 18, 19, 20, 21, 22, 23, 24, 25, 26, 27, 28, 29, 30, 31, 32, 33, 34, 35] rfl, hD.sub [0, 1, 2, 3, 4, 5, 6, 7, 8, 9, 10, 11, 12, 13, 14, 15, 16, 17, 18, 19, 20, 21, 22, 23, 24, 25, 26, 27, 28, 29, 30, 31, 32, 33, 34, 35] (by decide +kernel) rfl⟩, hS.F ht⟩) hS.2.2 dX12_dues_112
            · rw [fa_le] at c_57
              try rw [ti_7] at c_57
              refine lv_bipush (v := (-12)) hx hb dX12_dues_77 (by decide +kernel) ?_
              exact W.iret hx hb hr (fun t ht hW => ⟨⟨_, (f_50, n_51, n_52, f_53, f_54, f_55, x3, (fun k => [(si 0), (si 1), (si 2), (si 3)].getD k (si 0)), (fun k => [(sl 0), (sl 1), (sl 2), (sl 3)].getD k (sl 0)), (fun k => [(sf 0), (sf 1), (sf 2), (sf 3)].getD k (sf 0)), (fun k => [(sd 0), (sd 1), (sd 2), (sd 3)].getD k (sd 0))), rfl, hst, by rw [ht]; exact hP.sub [0, 1, 2, 3, 4, 5, 6, 7, 8, 9, 10, 11, 12, 13, 14, 15, 16, 17, 18, 19, 20, 21, 22, 23, 24, 25, 26, 27, 28, 29, 30, 31, 32, 33, 34, 35] rfl, hD.sub [0, 1, 2, 3, 4, 5, 6, 7, 8, 9, 10, 11, 12, 13, 14, 15, 16, 17, 18, 19, 20, 21, 22, 23, 24, 25, 26, 27, 28, 29, 30, 31, 32, 33, 34, 35] (by decide +kernel) rfl⟩, hS.F ht⟩) hS.2.2 dX12_dues_79
          · rw [fa_eq] at c_56
            try rw [ti_0] at c_56
            refine lv_bipush (v := (-5)) hx hb dX12_dues_64 (by decide +kernel) ?_
            exact W.iret hx hb hr (fun t ht hW => ⟨⟨_, (f_50, n_51, n_52, f_53, f_54, f_55, x3, (fun k => [(si 0), (si 1), (si 2), (si 3)].getD k (si 0)), (fun k => [(sl 0), (sl 1), (sl 2), (sl 3)].getD k (sl 0)), (fun k => [(sf 0), (sf 1), (sf 2), (sf 3)].getD k (sf 0)), (fun k => [(sd 0), (sd 1), (sd 2), (sd 3)].getD k (sd 0))), rfl, hst, by rw [ht]; exact hP.sub [0, 1, 2, 3, 4, 5, 6, 7, 8, 9, 10, 11, 12, 13, 14, 15, 16, 17, 18, 19, 20, 21, 22, 23, 24, 25, 26, 27, 28, 29, 30, 31, 32, 33, 34, 35] rfl, hD.sub [0, 1, 2, 3, 4, 5, 6, 7, 8, 9, 10, 11, 12, 13, 14, 15, 16, 17, 18, 19, 20, 21, 22, 23, 24, 25, 26, 27, 28, 29, 30, 31, 32, 33, 34, 35] (by decide +kernel) rfl⟩, hS.F ht⟩) hS.2.2 dX12_dues_66
        · rw [fa_eq] at c_47
          try rw [ti_n1] at c_47
          refine lv_bipush (v := (-11)) hx hb dX12_dues_41 (by decide +kernel) ?_
          exact W.iret hx hb hr (fun t ht hW => ⟨⟨_, (fo, dy, mu, g0, g1, g4, pa, (fun k => [(si 0), (si 1), (si 2), (si 3)].getD k (si 0)), (fun k => [(sl 0), (sl 1), (sl 2), (sl 3)].getD k (sl 0)), (fun k => [(sf 0), (sf 1), (sf 2), (sf 3)].getD k (sf 0)), (fun k => [(sd 0), (sd 1), (sd 2), (sd 3)].getD k (sd 0))), rfl, hst, by rw [ht]; exact hP.sub [0, 1, 2, 3, 4, 5, 6, 7, 8, 9, 10, 11, 12, 13, 14, 15, 16, 17, 18, 19, 20, 21, 22, 23, 24, 25, 26, 27, 28, 29, 30, 31, 32, 33, 34, 35] rfl, hD.sub [0, 1, 2, 3, 4, 5, 6, 7, 8, 9, 10, 11, 12, 13, 14, 15, 16, 17, 18, 19, 20, 21, 22, 23, 24, 25, 26, 27, 28, 29, 30, 31, 32, 33, 34, 35] (by decide +kernel) rfl⟩, hS.F ht⟩) hS.2.2 dX12_dues_43
      · refine va_aldq hx hb hE.1 hP 15 6 rfl rfl (by unfold vp_in; decide) dX12_dues_29 ?_
        refine W.eq (g2 := F0 m 30 ls [.ref t3]) rfl ?_
        refine lv_astore (lv' := [(5, .ref t3), (0, .ref h0), (1, .int x1), (2, .int x2), (3, .int x3), (4, .int 3)]) hx hb dX12_dues_30 hl (by decide +kernel) rfl (fun ls hl => ?_)
        refine lv_aload hx hb dX12_dues_32 (lv_at hl 0 rfl) ?_
        refine va_get (D := D) (ci := 6) (v := .int (so 3)) (C := RX9) (T := TX9) (N := 6) hx hb hts in_X12_dues_X9 hown hE.1 hP 19 rfl rfl 0 (by decide +kernel) (hts (.fieldLink RX12 277 "ClauseBook$Sheet" "sort" "I") (List.mem_of_getElem? (i := 2) rfl)) (fun _ h9 => h9) rfl dX12_dues_34 ?_
        refine lv_iconst (v := (-1)) hx hb dX12_dues_37 (by decide +kernel) ?_
        refine lv_icmp_ne (tgt := 44) hx hb dX12_dues_38 (by decide +kernel) (fun c_68 => ?_) (fun c_68 => ?_)
        · rw [fa_eq] at c_68
          try rw [ti_n1] at c_68
          refine lv_aload_n hx hb dX12_dues_44 rfl (lv_at hl 1 rfl) ?_
          refine va_get (D := D) (ci := 9) (v := .ref fa) (C := RX12) (T := TX12) (N := 11) hx hb hts in_X12_dues_X12 hown hE.1 hP 0 rfl rfl 7 (by decide +kernel) (hts (.fieldLink RX12 52 "ClauseBook" "falling" "LClauseBook$Falling;") (List.mem_of_getElem? (i := 3) rfl)) (fun _ h9 => h9) e0_7 dX12_dues_45 ?_
          refine lv_iload_n hx hb dX12_dues_48 rfl (lv_at hl 2 rfl) ?_
          refine lv_iload_n hx hb dX12_dues_49 rfl (lv_at hl 3 rfl) ?_
          refine lv_iload_n hx hb dX12_dues_50 rfl (lv_at hl 4 rfl) ?_
          have hFc := va_free (wc := [(fa, .inr (2, [.ref la, .ref cl, .ref wo, .ref on, .int dy, .int mu, .int pa])), (on, .inl (T 1, 7, .inr (.inl fo))), (wo, .inr (8, [.ref la, .ref cl, .ref p0, .ref p1, .ref p4, .int n])), (la, .inr (5, [.int (l9 0), .int (l9 1), .int (l9 2), .int (l9 3), .int (l9 4), .int (l9 5), .int (l9 6)])), (cl, .inr (1, [.int n0, .ref c1, .ref c2, .ref c3, .ref c4, .ref c5, .ref c6, .ref c7])), (c1, .inl (T 0, 24, .inl f1)), (c2, .inl (T 0, 24, .inl f2)), (c3, .inl (T 0, 24, .inl f3)), (c4, .inl (T 0, 24, .inl f4)), (c5, .inl (T 0, 24, .inl f5)), (p0, .inl (T 1, 676, .inr (.inl g0))), (p1, .inl (T 1, 676, .inr (.inl g1))), (p4, .inl (T 0, 672, .inl g4)), (c6, .inl (T 0, 24, .inl f6))]) hD hS hA [1, 2, 3, 4, 5, 6, 7, 8, 9, 10, 11, 12, 13, 14] rfl
          refine va_callv (va_runV (As := [.int x1, .int x2, .int x3]) (rest := []) ⟨hx, hb, hml, hown, hts⟩ (c_X3_gather l D T ad sa av ta _ fa on dy mu pa fo wo la cl p0 p1 p4 n l9 n0 c1 c2 c3 c4 c5 c6 c7 f1 f2 f3 f4 f5 g0 g1 g4 f6 x1 x2 x3 (by omega) (by omega) (by omega) hok (by omega) hmm hlq) (cwV 3 hts gX12_dues_X3_gather rfl rfl rfl hv_X3_gather ⟨Nat.le_of_ble_eq_true rfl, Nat.le_of_ble_eq_true rfl⟩) (pWk_V (q := (RX3, TX3, 7)) (ci := 2) (q0 := 1) hP hE hD hV hS hFc rfl rfl [1, 2, 3, 4, 5, 6, 7, 8, 9, 10, 11, 12, 13, 14] (by decide +kernel) rfl rfl) rfl rfl hl.1 rfl (lv_room (Nat.le_of_ble_eq_true rfl)) dX12_dues_51 ⟨Nat.le_of_ble_eq_true rfl, Nat.le_of_ble_eq_true rfl⟩) hS (fun q _ h => hFc q h) hFc (fun u_70 t H1 locs ht hvm hr_69 hB hz1 hk1 hS => ?_)
          obtain ⟨f_71, n_72, n_73, f_74, f_75, f_76⟩ := u_70
          have hsfhr_69 : stW (VALW l9 f1 f2 f3 f4 f5) n0 n (fun _ => True) g0 g1 g4 f_74 f_75 f_76 := hr_69.2
          have hst : stW (VALW l9 f1 f2 f3 f4 f5) n0 n (fun _ => True) g0 g1 g4 f_74 f_75 f_76 := hst.tr hsfhr_69 (fun _ _ => trivial)
          have hmm : memW (VALW l9 f1 f2 f3 f4 f5) n0 n f_74 f_75 f_76 := hst.1
          have hgahr_69 : dusP l9 f1 f2 f3 f4 f5 f6 (VALW l9 f1 f2 f3 f4 f5) x3 x1 x2 ((f_71, n_72, n_73) : duS) := hr_69.1
          obtain ⟨hP1, hD1⟩ := hB
          rw [ht] at hP1
          obtain ⟨hP, hD⟩ := va_repl [(h0, .inr (9, fs0)), (fa, .inr (2, [.ref la, .ref cl, .ref wo, .ref on, .int n_72, .int n_73, .int x3])), (on, .inl (T 1, 7, .inr (.inl f_71))), (wo, .inr (8, [.ref la, .ref cl, .ref p0, .ref p1, .ref p4, .int n])), (la, .inr (5, [.int (l9 0), .int (l9 1), .int (l9 2), .int (l9 3), .int (l9 4), .int (l9 5), .int (l9 6)])), (cl, .inr (1, [.int n0, .ref c1, .ref c2, .ref c3, .ref c4, .ref c5, .ref c6, .ref c7])), (c1, .inl (T 0, 24, .inl f1)), (c2, .inl (T 0, 24, .inl f2)), (c3, .inl (T 0, 24, .inl f3)), (c4, .inl (T 0, 24, .inl f4)), (c5, .inl (T 0, 24, .inl f5)), (p0, .inl (T 1, 676, .inr (.inl f_74))), (p1, .inl (T 1, 676, .inr (.inl f_75))), (p4, .inl (T 0, 672, .inl f_76)), (c6, .inl (T 0, 24, .inl f6)), (h1, .inl (T 6, 4, .inr (.inr (.inr (.inr (va_up (va_up (va_up (va_up (fun _ => none) 0 (some t0)) 1 (some t1)) 2 (some t2)) 3 (some t3))))))), (t0, .inr (6, [.int (so 0), .int (sn 0), .ref a00, .ref a01, .ref a02, .ref a03])), (t1, .inr (6, [.int (so 1), .int (sn 1), .ref a10, .ref a11, .ref a12, .ref a13])), (t2, .inr (6, [.int (so 2), .int (sn 2), .ref a20, .ref a21, .ref a22, .ref a23])), (t3, .inr (6, [.int (so 3), .int (sn 3), .ref a30, .ref a31, .ref a32, .ref a33])), (a00, .inl (T 0, 30, .inl (si 0))), (a01, .inl (T 1, 30, .inr (.inl (sl 0)))), (a02, .inl (T 2, 30, .inr (.inr (.inl (sf 0))))), (a03, .inl (T 3, 30, .inr (.inr (.inr (.inl (sd 0)))))), (a10, .inl (T 0, 30, .inl (si 1))), (a11, .inl (T 1, 30, .inr (.inl (sl 1)))), (a12, .inl (T 2, 30, .inr (.inr (.inl (sf 1))))), (a13, .inl (T 3, 30, .inr (.inr (.inr (.inl (sd 1)))))), (a20, .inl (T 0, 30, .inl (si 2))), (a21, .inl (T 1, 30, .inr (.inl (sl 2)))), (a22, .inl (T 2, 30, .inr (.inr (.inl (sf 2))))), (a23, .inl (T 3, 30, .inr (.inr (.inr (.inl (sd 2)))))), (a30, .inl (T 0, 30, .inl (si 3))), (a31, .inl (T 1, 30, .inr (.inl (sl 3)))), (a32, .inl (T 2, 30, .inr (.inr (.inl (sf 3))))), (a33, .inl (T 3, 30, .inr (.inr (.inr (.inl (sd 3))))))] hP hD [1, 2, 3, 4, 5, 6, 7, 8, 9, 10, 11, 12, 13, 14] [1, 2, 3, 4, 5, 6, 7, 8, 9, 10, 11, 12, 13, 14] rfl (by decide +kernel) rfl rfl rfl hk1 hP1
          clear hP1 hD1 hFc
          generalize H1 = H at hP hS ⊢
          refine lv_aload_n hx hb dX12_dues_54 rfl (lv_at hl 1 rfl) ?_
          refine va_get (D := D) (ci := 9) (v := .ref fa) (C := RX12) (T := TX12) (N := 11) hx hb hts in_X12_dues_X12 hown hE.1 hP 0 rfl rfl 7 (by decide +kernel) (hts (.fieldLink RX12 52 "ClauseBook" "falling" "LClauseBook$Falling;") (List.mem_of_getElem? (i := 3) rfl)) (fun _ h9 => h9) e0_7 dX12_dues_55 ?_
          refine va_get (D := D) (ci := 2) (v := .int n_73) (C := RX3) (T := TX3) (N := 7) hx hb hts in_X12_dues_X3 hown hE.1 hP 1 rfl rfl 5 (by decide +kernel) (hts (.fieldLink RX12 256 "ClauseBook$Falling" "much" "Z") (List.mem_of_getElem? (i := 4) rfl)) (fun _ h9 => h9) rfl dX12_dues_58 ?_
          refine lv_if_eq (tgt := 67) hx hb dX12_dues_61 (by decide +kernel) (fun c_77 => ?_) (fun c_77 => ?_)
          · rw [fa_eq] at c_77
            try rw [ti_0] at c_77
            refine lv_aload hx hb dX12_dues_67 (lv_at hl 0 rfl) ?_
            refine va_get (D := D) (ci := 6) (v := .int (sn 3)) (C := RX9) (T := TX9) (N := 6) hx hb hts in_X12_dues_X9 hown hE.1 hP 19 rfl rfl 1 (by decide +kernel) (hts (.fieldLink RX12 280 "ClauseBook$Sheet" "size" "I") (List.mem_of_getElem? (i := 5) rfl)) (fun _ h9 => h9) rfl dX12_dues_69 ?_
            refine lv_bipush (v := 7) hx hb dX12_dues_72 (by decide +kernel) ?_
            refine lv_icmp_ge (tgt := 80) hx hb dX12_dues_74 (by decide +kernel) (fun c_78 => ?_) (fun c_78 => ?_)
            · rw [fa_le] at c_78
              try rw [ti_7] at c_78
              refine lv_iconst (v := 0) hx hb dX12_dues_80 (by decide +kernel) ?_
              refine lv_istore (lv' := [(6, .int 0), (5, .ref t3), (0, .ref h0), (1, .int x1), (2, .int x2), (3, .int x3), (4, .int 3)]) hx hb dX12_dues_81 hl (by decide +kernel) rfl (fun ls hl => ?_)
              refine loopW (σ := (Int32) × (Nat → Int32) × (Nat → Int64) × (Nat → UInt32) × (Nat → UInt64)) (fun x9 ls H locs => lv_has ls 7 [(6, .int x9.1), (5, .ref t3), (0, .ref h0), (1, .int x1), (2, .int x2), (3, .int x3), (4, .int 3)] ∧ va_P D vwCl [(h0, .inr (9, fs0)), (fa, .inr (2, [.ref la, .ref cl, .ref wo, .ref on, .int n_72, .int n_73, .int x3])), (on, .inl (T 1, 7, .inr (.inl f_71))), (wo, .inr (8, [.ref la, .ref cl, .ref p0, .ref p1, .ref p4, .int n])), (la, .inr (5, [.int (l9 0), .int (l9 1), .int (l9 2), .int (l9 3), .int (l9 4), .int (l9 5), .int (l9 6)])), (cl, .inr (1, [.int n0, .ref c1, .ref c2, .ref c3, .ref c4, .ref c5, .ref c6, .ref c7])), (c1, .inl (T 0, 24, .inl f1)), (c2, .inl (T 0, 24, .inl f2)), (c3, .inl (T 0, 24, .inl f3)), (c4, .inl (T 0, 24, .inl f4)), (c5, .inl (T 0, 24, .inl f5)), (p0, .inl (T 1, 676, .inr (.inl f_74))), (p1, .inl (T 1, 676, .inr (.inl f_75))), (p4, .inl (T 0, 672, .inl f_76)), (c6, .inl (T 0, 24, .inl f6)), (h1, .inl (T 6, 4, .inr (.inr (.inr (.inr (va_up (va_up (va_up (va_up (fun _ => none) 0 (some t0)) 1 (some t1)) 2 (some t2)) 3 (some t3))))))), (t0, .inr (6, [.int (so 0), .int (sn 0), .ref a00, .ref a01, .ref a02, .ref a03])), (t1, .inr (6, [.int (so 1), .int (sn 1), .ref a10, .ref a11, .ref a12, .ref a13])), (t2, .inr (6, [.int (so 2), .int (sn 2), .ref a20, .ref a21, .ref a22, .ref a23])), (t3, .inr (6, [.int (so 3), .int (sn 3), .ref a30, .ref a31, .ref a32, .ref a33])), (a00, .inl (T 0, 30, .inl (si 0))), (a01, .inl (T 1, 30, .inr (.inl (sl 0)))), (a02, .inl (T 2, 30, .inr (.inr (.inl (sf 0))))), (a03, .inl (T 3, 30, .inr (.inr (.inr (.inl (sd 0)))))), (a10, .inl (T 0, 30, .inl (si 1))), (a11, .inl (T 1, 30, .inr (.inl (sl 1)))), (a12, .inl (T 2, 30, .inr (.inr (.inl (sf 1))))), (a13, .inl (T 3, 30, .inr (.inr (.inr (.inl (sd 1)))))), (a20, .inl (T 0, 30, .inl (si 2))), (a21, .inl (T 1, 30, .inr (.inl (sl 2)))), (a22, .inl (T 2, 30, .inr (.inr (.inl (sf 2))))), (a23, .inl (T 3, 30, .inr (.inr (.inr (.inl (sd 2)))))), (a30, .inl (T 0, 30, .inl x9.2.1)), (a31, .inl (T 1, 30, .inr (.inl x9.2.2.1))), (a32, .inl (T 2, 30, .inr (.inr (.inl x9.2.2.2.1)))), (a33, .inl (T 3, 30, .inr (.inr (.inr (.inl x9.2.2.2.2)))))] H ∧ va_D A [(h0, .inr (9, fs0)), (fa, .inr (2, [.ref la, .ref cl, .ref wo, .ref on, .int n_72, .int n_73, .int x3])), (on, .inl (T 1, 7, .inr (.inl f_71))), (wo, .inr (8, [.ref la, .ref cl, .ref p0, .ref p1, .ref p4, .int n])), (la, .inr (5, [.int (l9 0), .int (l9 1), .int (l9 2), .int (l9 3), .int (l9 4), .int (l9 5), .int (l9 6)])), (cl, .inr (1, [.int n0, .ref c1, .ref c2, .ref c3, .ref c4, .ref c5, .ref c6, .ref c7])), (c1, .inl (T 0, 24, .inl f1)), (c2, .inl (T 0, 24, .inl f2)), (c3, .inl (T 0, 24, .inl f3)), (c4, .inl (T 0, 24, .inl f4)), (c5, .inl (T 0, 24, .inl f5)), (p0, .inl (T 1, 676, .inr (.inl f_74))), (p1, .inl (T 1, 676, .inr (.inl f_75))), (p4, .inl (T 0, 672, .inl f_76)), (c6, .inl (T 0, 24, .inl f6)), (h1, .inl (T 6, 4, .inr (.inr (.inr (.inr (va_up (va_up (va_up (va_up (fun _ => none) 0 (some t0)) 1 (some t1)) 2 (some t2)) 3 (some t3))))))), (t0, .inr (6, [.int (so 0), .int (sn 0), .ref a00, .ref a01, .ref a02, .ref a03])), (t1, .inr (6, [.int (so 1), .int (sn 1), .ref a10, .ref a11, .ref a12, .ref a13])), (t2, .inr (6, [.int (so 2), .int (sn 2), .ref a20, .ref a21, .ref a22, .ref a23])), (t3, .inr (6, [.int (so 3), .int (sn 3), .ref a30, .ref a31, .ref a32, .ref a33])), (a00, .inl (T 0, 30, .inl (si 0))), (a01, .inl (T 1, 30, .inr (.inl (sl 0)))), (a02, .inl (T 2, 30, .inr (.inr (.inl (sf 0))))), (a03, .inl (T 3, 30, .inr (.inr (.inr (.inl (sd 0)))))), (a10, .inl (T 0, 30, .inl (si 1))), (a11, .inl (T 1, 30, .inr (.inl (sl 1)))), (a12, .inl (T 2, 30, .inr (.inr (.inl (sf 1))))), (a13, .inl (T 3, 30, .inr (.inr (.inr (.inl (sd 1)))))), (a20, .inl (T 0, 30, .inl (si 2))), (a21, .inl (T 1, 30, .inr (.inl (sl 2)))), (a22, .inl (T 2, 30, .inr (.inr (.inl (sf 2))))), (a23, .inl (T 3, 30, .inr (.inr (.inr (.inl (sd 2)))))), (a30, .inl (T 0, 30, .inl x9.2.1)), (a31, .inl (T 1, 30, .inr (.inl x9.2.2.1))), (a32, .inl (T 2, 30, .inr (.inr (.inl x9.2.2.2.1)))), (a33, .inl (T 3, 30, .inr (.inr (.inr (.inl x9.2.2.2.2)))))] ∧ va_S A s.heap H locs ∧ (0 ≤ x9.1.toInt)) (fun x9 => (7 - x9.1.toInt).toNat) (fun x9 ls H locs hI ih => ?_) (0, (si 3), (sl 3), (sf 3), (sd 3)) ls ⟨lv_sub hl [0, 1, 2, 3, 4, 5, 6] rfl, hP.sub [0, 1, 2, 3, 4, 5, 6, 7, 8, 9, 10, 11, 12, 13, 14, 15, 16, 17, 18, 19, 20, 21, 22, 23, 24, 25, 26, 27, 28, 29, 30, 31, 32, 33, 34, 35] rfl, hD.sub [0, 1, 2, 3, 4, 5, 6, 7, 8, 9, 10, 11, 12, 13, 14, 15, 16, 17, 18, 19, 20, 21, 22, 23, 24, 25, 26, 27, 28, 29, 30, 31, 32, 33, 34, 35] (by decide +kernel) rfl, hS, (by (try dsimp only); decide)⟩
              obtain ⟨tt, q0, q1, q2, q3⟩ := x9
              obtain ⟨hl, hP, hD, hS, hinv⟩ := hI
              have hl : lv_has ls 7 [(6, .int tt), (5, .ref t3), (0, .ref h0), (1, .int x1), (2, .int x2), (3, .int x3), (4, .int 3)] := hl
              have hP : va_P D vwCl [(h0, .inr (9, fs0)), (fa, .inr (2, [.ref la, .ref cl, .ref wo, .ref on, .int n_72, .int n_73, .int x3])), (on, .inl (T 1, 7, .inr (.inl f_71))), (wo, .inr (8, [.ref la, .ref cl, .ref p0, .ref p1, .ref p4, .int n])), (la, .inr (5, [.int (l9 0), .int (l9 1), .int (l9 2), .int (l9 3), .int (l9 4), .int (l9 5), .int (l9 6)])), (cl, .inr (1, [.int n0, .ref c1, .ref c2, .ref c3, .ref c4, .ref c5, .ref c6, .ref c7])), (c1, .inl (T 0, 24, .inl f1)), (c2, .inl (T 0, 24, .inl f2)), (c3, .inl (T 0, 24, .inl f3)), (c4, .inl (T 0, 24, .inl f4)), (c5, .inl (T 0, 24, .inl f5)), (p0, .inl (T 1, 676, .inr (.inl f_74))), (p1, .inl (T 1, 676, .inr (.inl f_75))), (p4, .inl (T 0, 672, .inl f_76)), (c6, .inl (T 0, 24, .inl f6)), (h1, .inl (T 6, 4, .inr (.inr (.inr (.inr (va_up (va_up (va_up (va_up (fun _ => none) 0 (some t0)) 1 (some t1)) 2 (some t2)) 3 (some t3))))))), (t0, .inr (6, [.int (so 0), .int (sn 0), .ref a00, .ref a01, .ref a02, .ref a03])), (t1, .inr (6, [.int (so 1), .int (sn 1), .ref a10, .ref a11, .ref a12, .ref a13])), (t2, .inr (6, [.int (so 2), .int (sn 2), .ref a20, .ref a21, .ref a22, .ref a23])), (t3, .inr (6, [.int (so 3), .int (sn 3), .ref a30, .ref a31, .ref a32, .ref a33])), (a00, .inl (T 0, 30, .inl (si 0))), (a01, .inl (T 1, 30, .inr (.inl (sl 0)))), (a02, .inl (T 2, 30, .inr (.inr (.inl (sf 0))))), (a03, .inl (T 3, 30, .inr (.inr (.inr (.inl (sd 0)))))), (a10, .inl (T 0, 30, .inl (si 1))), (a11, .inl (T 1, 30, .inr (.inl (sl 1)))), (a12, .inl (T 2, 30, .inr (.inr (.inl (sf 1))))), (a13, .inl (T 3, 30, .inr (.inr (.inr (.inl (sd 1)))))), (a20, .inl (T 0, 30, .inl (si 2))), (a21, .inl (T 1, 30, .inr (.inl (sl 2)))), (a22, .inl (T 2, 30, .inr (.inr (.inl (sf 2))))), (a23, .inl (T 3, 30, .inr (.inr (.inr (.inl (sd 2)))))), (a30, .inl (T 0, 30, .inl q0)), (a31, .inl (T 1, 30, .inr (.inl q1))), (a32, .inl (T 2, 30, .inr (.inr (.inl q2)))), (a33, .inl (T 3, 30, .inr (.inr (.inr (.inl q3)))))] H := hP
              have hD : va_D A [(h0, .inr (9, fs0)), (fa, .inr (2, [.ref la, .ref cl, .ref wo, .ref on, .int n_72, .int n_73, .int x3])), (on, .inl (T 1, 7, .inr (.inl f_71))), (wo, .inr (8, [.ref la, .ref cl, .ref p0, .ref p1, .ref p4, .int n])), (la, .inr (5, [.int (l9 0), .int (l9 1), .int (l9 2), .int (l9 3), .int (l9 4), .int (l9 5), .int (l9 6)])), (cl, .inr (1, [.int n0, .ref c1, .ref c2, .ref c3, .ref c4, .ref c5, .ref c6, .ref c7])), (c1, .inl (T 0, 24, .inl f1)), (c2, .inl (T 0, 24, .inl f2)), (c3, .inl (T 0, 24, .inl f3)), (c4, .inl (T 0, 24, .inl f4)), (c5, .inl (T 0, 24, .inl f5)), (p0, .inl (T 1, 676, .inr (.inl f_74))), (p1, .inl (T 1, 676, .inr (.inl f_75))), (p4, .inl (T 0, 672, .inl f_76)), (c6, .inl (T 0, 24, .inl f6)), (h1, .inl (T 6, 4, .inr (.inr (.inr (.inr (va_up (va_up (va_up (va_up (fun _ => none) 0 (some t0)) 1 (some t1)) 2 (some t2)) 3 (some t3))))))), (t0, .inr (6, [.int (so 0), .int (sn 0), .ref a00, .ref a01, .ref a02, .ref a03])), (t1, .inr (6, [.int (so 1), .int (sn 1), .ref a10, .ref a11, .ref a12, .ref a13])), (t2, .inr (6, [.int (so 2), .int (sn 2), .ref a20, .ref a21, .ref a22, .ref a23])), (t3, .inr (6, [.int (so 3), .int (sn 3), .ref a30, .ref a31, .ref a32, .ref a33])), (a00, .inl (T 0, 30, .inl (si 0))), (a01, .inl (T 1, 30, .inr (.inl (sl 0)))), (a02, .inl (T 2, 30, .inr (.inr (.inl (sf 0))))), (a03, .inl (T 3, 30, .inr (.inr (.inr (.inl (sd 0)))))), (a10, .inl (T 0, 30, .inl (si 1))), (a11, .inl (T 1, 30, .inr (.inl (sl 1)))), (a12, .inl (T 2, 30, .inr (.inr (.inl (sf 1))))), (a13, .inl (T 3, 30, .inr (.inr (.inr (.inl (sd 1)))))), (a20, .inl (T 0, 30, .inl (si 2))), (a21, .inl (T 1, 30, .inr (.inl (sl 2)))), (a22, .inl (T 2, 30, .inr (.inr (.inl (sf 2))))), (a23, .inl (T 3, 30, .inr (.inr (.inr (.inl (sd 2)))))), (a30, .inl (T 0, 30, .inl q0)), (a31, .inl (T 1, 30, .inr (.inl q1))), (a32, .inl (T 2, 30, .inr (.inr (.inl q2)))), (a33, .inl (T 3, 30, .inr (.inr (.inr (.inl q3)))))] := hD
              have hinv : 0 ≤ tt.toInt := hinv
              refine lv_iload hx hb dX12_dues_83 (lv_at hl 0 rfl) ?_
              refine lv_bipush (v := 7) hx hb dX12_dues_85 (by decide +kernel) ?_
              refine lv_icmp_ge (tgt := 119) hx hb dX12_dues_87 (by decide +kernel) (fun c_79 => ?_) (fun c_79 => ?_)
              · rw [fa_le] at c_79
                try rw [ti_7] at c_79
                refine lv_bipush (v := 7) hx hb dX12_dues_119 (by decide +kernel) ?_
                exact W.iret hx hb hr (fun t ht hW => ⟨⟨_, (f_71, n_72, n_73, f_74, f_75, f_76, x3, (fun k => [(si 0), (si 1), (si 2), q0].getD k (si 0)), (fun k => [(sl 0), (sl 1), (sl 2), q1].getD k (sl 0)), (fun k => [(sf 0), (sf 1), (sf 2), q2].getD k (sf 0)), (fun k => [(sd 0), (sd 1), (sd 2), q3].getD k (sd 0))), rfl, hst, by rw [ht]; exact hP.sub [0, 1, 2, 3, 4, 5, 6, 7, 8, 9, 10, 11, 12, 13, 14, 15, 16, 17, 18, 19, 20, 21, 22, 23, 24, 25, 26, 27, 28, 29, 30, 31, 32, 33, 34, 35] rfl, hD.sub [0, 1, 2, 3, 4, 5, 6, 7, 8, 9, 10, 11, 12, 13, 14, 15, 16, 17, 18, 19, 20, 21, 22, 23, 24, 25, 26, 27, 28, 29, 30, 31, 32, 33, 34, 35] (by decide +kernel) rfl⟩, hS.F ht⟩) hS.2.2 dX12_dues_121
              · rw [fa_le] at c_79
                try rw [ti_7] at c_79
                refine lv_aload hx hb dX12_dues_90 (lv_at hl 1 rfl) ?_
                refine lv_iload hx hb dX12_dues_92 (lv_at hl 0 rfl) ?_
                refine lv_aload_n hx hb dX12_dues_94 rfl (lv_at hl 2 rfl) ?_
                refine va_get (D := D) (ci := 9) (v := .ref fa) (C := RX12) (T := TX12) (N := 11) hx hb hts in_X12_dues_X12 hown hE.1 hP 0 rfl rfl 7 (by decide +kernel) (hts (.fieldLink RX12 52 "ClauseBook" "falling" "LClauseBook$Falling;") (List.mem_of_getElem? (i := 3) rfl)) (fun _ h9 => h9) e0_7 dX12_dues_95 ?_
                refine va_get (D := D) (ci := 2) (v := .ref on) (C := RX3) (T := TX3) (N := 7) hx hb hts in_X12_dues_X3 hown hE.1 hP 1 rfl rfl 3 (by decide +kernel) (hts (.fieldLink RX12 259 "ClauseBook$Falling" "on" "[J") (List.mem_of_getElem? (i := 6) rfl)) (fun _ h9 => h9) rfl dX12_dues_98 ?_
                refine lv_iload hx hb dX12_dues_101 (lv_at hl 0 rfl) ?_
                refine va_lald hx hb hE.1 hP 2 1 rfl rfl (by rw [vp_in_iff]; first | omega | (subst_vars; omega)) dX12_dues_103 ?_
                refine lv_topl (fun z_80 ez_80 => ?_)
                have hFc := va_free (wc := [(t3, .inr (6, [.int (so 3), .int (sn 3), .ref a30, .ref a31, .ref a32, .ref a33])), (a30, .inl (T 0, 30, .inl q0)), (a31, .inl (T 1, 30, .inr (.inl q1))), (a32, .inl (T 2, 30, .inr (.inr (.inl q2)))), (a33, .inl (T 3, 30, .inr (.inr (.inr (.inl q3)))))]) hD hS hA [19, 32, 33, 34, 35] rfl
                refine va_calli (va_runV (As := [.int tt, .long z_80]) (rest := []) ⟨hx, hb, hml, hown, hts⟩ (c_X9_store l D T _ t3 (so 3) (sn 3) a30 a31 a32 a33 q0 q1 q2 q3 tt z_80 (by rw [vp_in_iff]; omega)) (cwV 2 hts gX12_dues_X9_store rfl rfl rfl hv_X9_store ⟨Nat.le_of_ble_eq_true rfl, Nat.le_of_ble_eq_true rfl⟩) (pW_V (q := (RX9, TX9, 6)) (ci := 6) (q0 := 19) hP hE hD rfl rfl [19, 32, 33, 34, 35] (by decide +kernel) rfl rfl) rfl rfl hl.1 rfl (lv_room (Nat.le_of_ble_eq_true rfl)) dX12_dues_104 ⟨Nat.le_of_ble_eq_true rfl, Nat.le_of_ble_eq_true rfl⟩) hS (fun q _ h => hFc q h) hFc (fun r_81 u_82 t H1 locs ht hvm hr_81 hB hz1 hk1 hS => ?_)
                obtain ⟨f_83, f_84, f_85, f_86⟩ := u_82
                obtain ⟨hP1, hD1⟩ := hB
                rw [ht] at hP1
                obtain ⟨hP, hD⟩ := va_repl [(h0, .inr (9, fs0)), (fa, .inr (2, [.ref la, .ref cl, .ref wo, .ref on, .int n_72, .int n_73, .int x3])), (on, .inl (T 1, 7, .inr (.inl f_71))), (wo, .inr (8, [.ref la, .ref cl, .ref p0, .ref p1, .ref p4, .int n])), (la, .inr (5, [.int (l9 0), .int (l9 1), .int (l9 2), .int (l9 3), .int (l9 4), .int (l9 5), .int (l9 6)])), (cl, .inr (1, [.int n0, .ref c1, .ref c2, .ref c3, .ref c4, .ref c5, .ref c6, .ref c7])), (c1, .inl (T 0, 24, .inl f1)), (c2, .inl (T 0, 24, .inl f2)), (c3, .inl (T 0, 24, .inl f3)), (c4, .inl (T 0, 24, .inl f4)), (c5, .inl (T 0, 24, .inl f5)), (p0, .inl (T 1, 676, .inr (.inl f_74))), (p1, .inl (T 1, 676, .inr (.inl f_75))), (p4, .inl (T 0, 672, .inl f_76)), (c6, .inl (T 0, 24, .inl f6)), (h1, .inl (T 6, 4, .inr (.inr (.inr (.inr (va_up (va_up (va_up (va_up (fun _ => none) 0 (some t0)) 1 (some t1)) 2 (some t2)) 3 (some t3))))))), (t0, .inr (6, [.int (so 0), .int (sn 0), .ref a00, .ref a01, .ref a02, .ref a03])), (t1, .inr (6, [.int (so 1), .int (sn 1), .ref a10, .ref a11, .ref a12, .ref a13])), (t2, .inr (6, [.int (so 2), .int (sn 2), .ref a20, .ref a21, .ref a22, .ref a23])), (t3, .inr (6, [.int (so 3), .int (sn 3), .ref a30, .ref a31, .ref a32, .ref a33])), (a00, .inl (T 0, 30, .inl (si 0))), (a01, .inl (T 1, 30, .inr (.inl (sl 0)))), (a02, .inl (T 2, 30, .inr (.inr (.inl (sf 0))))), (a03, .inl (T 3, 30, .inr (.inr (.inr (.inl (sd 0)))))), (a10, .inl (T 0, 30, .inl (si 1))), (a11, .inl (T 1, 30, .inr (.inl (sl 1)))), (a12, .inl (T 2, 30, .inr (.inr (.inl (sf 1))))), (a13, .inl (T 3, 30, .inr (.inr (.inr (.inl (sd 1)))))), (a20, .inl (T 0, 30, .inl (si 2))), (a21, .inl (T 1, 30, .inr (.inl (sl 2)))), (a22, .inl (T 2, 30, .inr (.inr (.inl (sf 2))))), (a23, .inl (T 3, 30, .inr (.inr (.inr (.inl (sd 2)))))), (a30, .inl (T 0, 30, .inl f_83)), (a31, .inl (T 1, 30, .inr (.inl f_84))), (a32, .inl (T 2, 30, .inr (.inr (.inl f_85)))), (a33, .inl (T 3, 30, .inr (.inr (.inr (.inl f_86)))))] hP hD [19, 32, 33, 34, 35] [19, 32, 33, 34, 35] rfl (by decide +kernel) rfl rfl rfl hk1 hP1
                clear hP1 hD1 hFc
                generalize H1 = H at hP hS ⊢
                refine lv_if_ne (tgt := 113) hx hb dX12_dues_107 (by decide +kernel) (fun c_87 => ?_) (fun c_87 => ?_)
                · rw [fa_eq] at c_87
                  try rw [ti_0] at c_87
                  obtain ⟨z_88, ez_88⟩ : ∃ y : Int32, y = tt + 1 := ⟨_, rfl⟩
                  refine lv_iinc (v := z_88) (lv' := [(6, .int z_88), (5, .ref t3), (0, .ref h0), (1, .int x1), (2, .int x2), (3, .int x3), (4, .int 3)]) hx hb dX12_dues_113 hl (k := 0) rfl (by rw [ez_88]; rfl) (by decide +kernel) rfl (fun ls hl => ?_)
                  refine lv_goto (tgt := 83) hx hb dX12_dues_116 (by decide +kernel) ?_
                  exact ih (z_88, f_83, f_84, f_85, f_86) ls _ _ ⟨lv_sub hl [0, 1, 2, 3, 4, 5, 6] rfl, hP.sub [0, 1, 2, 3, 4, 5, 6, 7, 8, 9, 10, 11, 12, 13, 14, 15, 16, 17, 18, 19, 20, 21, 22, 23, 24, 25, 26, 27, 28, 29, 30, 31, 32, 33, 34, 35] rfl, hD.sub [0, 1, 2, 3, 4, 5, 6, 7, 8, 9, 10, 11, 12, 13, 14, 15, 16, 17, 18, 19, 20, 21, 22, 23, 24, 25, 26, 27, 28, 29, 30, 31, 32, 33, 34, 35] (by decide +kernel) rfl, hS, (by subst_vars; (try dsimp only); rw [inc1 (i := tt) (n := 1000) (by omega) (by decide +kernel)]; omega)⟩ (by subst_vars; (try dsimp only); rw [inc1 (i := tt) (n := 1000) (by omega) (by decide +kernel)]; omega)
                · rw [fa_eq] at c_87
                  try rw [ti_0] at c_87
                  refine lv_bipush (v := (-5)) hx hb dX12_dues_110 (by decide +kernel) ?_
                  exact W.iret hx hb hr (fun t ht hW => ⟨⟨_, (f_71, n_72, n_73, f_74, f_75, f_76, x3, (fun k => [(si 0), (si 1), (si 2), f_83].getD k (si 0)), (fun k => [(sl 0), (sl 1), (sl 2), f_84].getD k (sl 0)), (fun k => [(sf 0), (sf 1), (sf 2), f_85].getD k (sf 0)), (fun k => [(sd 0), (sd 1), (sd 2), f_86].getD k (sd 0))), rfl, hst, by rw [ht]; exact hP.sub [0, 1, 2, 3, 4, 5, 6, 7, 8, 9, 10, 11, 12, 13, 14, 15, 16, 17, 18, 19, 20, 21, 22, 23, 24, 25, 26, 27, 28, 29, 30, 31, 32, 33, 34, 35] rfl, hD.sub [0, 1, 2, 3, 4, 5, 6, 7, 8, 9, 10, 11, 12, 13, 14, 15, 16, 17, 18, 19, 20, 21, 22, 23, 24, 25, 26, 27, 28, 29, 30, 31, 32, 33, 34, 35] (by decide +kernel) rfl⟩, hS.F ht⟩) hS.2.2 dX12_dues_112
            · rw [fa_le] at c_78
              try rw [ti_7] at c_78
              refine lv_bipush (v := (-12)) hx hb dX12_dues_77 (by decide +kernel) ?_
              exact W.iret hx hb hr (fun t ht hW => ⟨⟨_, (f_71, n_72, n_73, f_74, f_75, f_76, x3, (fun k => [(si 0), (si 1), (si 2), (si 3)].getD k (si 0)), (fun k => [(sl 0), (sl 1), (sl 2), (sl 3)].getD k (sl 0)), (fun k => [(sf 0), (sf 1), (sf 2), (sf 3)].getD k (sf 0)), (fun k => [(sd 0), (sd 1), (sd 2), (sd 3)].getD k (sd 0))), rfl, hst, by rw [ht]; exact hP.sub [0, 1, 2, 3, 4, 5, 6, 7, 8, 9, 10, 11, 12, 13, 14, 15, 16, 17, 18, 19, 20, 21, 22, 23, 24, 25, 26, 27, 28, 29, 30, 31, 32, 33, 34, 35] rfl, hD.sub [0, 1, 2, 3, 4, 5, 6, 7, 8, 9, 10, 11, 12, 13, 14, 15, 16, 17, 18, 19, 20, 21, 22, 23, 24, 25, 26, 27, 28, 29, 30, 31, 32, 33, 34, 35] (by decide +kernel) rfl⟩, hS.F ht⟩) hS.2.2 dX12_dues_79
          · rw [fa_eq] at c_77
            try rw [ti_0] at c_77
            refine lv_bipush (v := (-5)) hx hb dX12_dues_64 (by decide +kernel) ?_
            exact W.iret hx hb hr (fun t ht hW => ⟨⟨_, (f_71, n_72, n_73, f_74, f_75, f_76, x3, (fun k => [(si 0), (si 1), (si 2), (si 3)].getD k (si 0)), (fun k => [(sl 0), (sl 1), (sl 2), (sl 3)].getD k (sl 0)), (fun k => [(sf 0), (sf 1), (sf 2), (sf 3)].getD k (sf 0)), (fun k => [(sd 0), (sd 1), (sd 2), (sd 3)].getD k (sd 0))), rfl, hst, by rw [ht]; exact hP.sub [0, 1, 2, 3, 4, 5, 6, 7, 8, 9, 10, 11, 12, 13, 14, 15, 16, 17, 18, 19, 20, 21, 22, 23, 24, 25, 26, 27, 28, 29, 30, 31, 32, 33, 34, 35] rfl, hD.sub [0, 1, 2, 3, 4, 5, 6, 7, 8, 9, 10, 11, 12, 13, 14, 15, 16, 17, 18, 19, 20, 21, 22, 23, 24, 25, 26, 27, 28, 29, 30, 31, 32, 33, 34, 35] (by decide +kernel) rfl⟩, hS.F ht⟩) hS.2.2 dX12_dues_66
        · rw [fa_eq] at c_68
          try rw [ti_n1] at c_68
          refine lv_bipush (v := (-11)) hx hb dX12_dues_41 (by decide +kernel) ?_
          exact W.iret hx hb hr (fun t ht hW => ⟨⟨_, (fo, dy, mu, g0, g1, g4, pa, (fun k => [(si 0), (si 1), (si 2), (si 3)].getD k (si 0)), (fun k => [(sl 0), (sl 1), (sl 2), (sl 3)].getD k (sl 0)), (fun k => [(sf 0), (sf 1), (sf 2), (sf 3)].getD k (sf 0)), (fun k => [(sd 0), (sd 1), (sd 2), (sd 3)].getD k (sd 0))), rfl, hst, by rw [ht]; exact hP.sub [0, 1, 2, 3, 4, 5, 6, 7, 8, 9, 10, 11, 12, 13, 14, 15, 16, 17, 18, 19, 20, 21, 22, 23, 24, 25, 26, 27, 28, 29, 30, 31, 32, 33, 34, 35] rfl, hD.sub [0, 1, 2, 3, 4, 5, 6, 7, 8, 9, 10, 11, 12, 13, 14, 15, 16, 17, 18, 19, 20, 21, 22, 23, 24, 25, 26, 27, 28, 29, 30, 31, 32, 33, 34, 35] (by decide +kernel) rfl⟩, hS.F ht⟩) hS.2.2 dX12_dues_43
    · refine lv_if_ne (tgt := 23) hx hb dX12_dues_17 (by decide +kernel) (fun c9 => absurd c9 (by decide +kernel)) (fun _ => ?_)
      refine lv_bipush (v := (-2)) hx hb dX12_dues_20 (by decide +kernel) ?_
      exact W.iret hx hb hr (fun t ht hW => ⟨⟨_, (fo, dy, mu, g0, g1, g4, pa, (fun k => [(si 0), (si 1), (si 2), (si 3)].getD k (si 0)), (fun k => [(sl 0), (sl 1), (sl 2), (sl 3)].getD k (sl 0)), (fun k => [(sf 0), (sf 1), (sf 2), (sf 3)].getD k (sf 0)), (fun k => [(sd 0), (sd 1), (sd 2), (sd 3)].getD k (sd 0))), rfl, hst, by rw [ht]; exact hP.sub [0, 1, 2, 3, 4, 5, 6, 7, 8, 9, 10, 11, 12, 13, 14, 15, 16, 17, 18, 19, 20, 21, 22, 23, 24, 25, 26, 27, 28, 29, 30, 31, 32, 33, 34, 35] rfl, hD.sub [0, 1, 2, 3, 4, 5, 6, 7, 8, 9, 10, 11, 12, 13, 14, 15, 16, 17, 18, 19, 20, 21, 22, 23, 24, 25, 26, 27, 28, 29, 30, 31, 32, 33, 34, 35] (by decide +kernel) rfl⟩, hS.F ht⟩) hS.2.2 dX12_dues_22
  · refine lv_if_eq (tgt := 20) hx hb dX12_dues_7 (by decide +kernel) (fun _ => ?_) (fun c9 => absurd c9 (by decide +kernel))
    refine lv_bipush (v := (-2)) hx hb dX12_dues_20 (by decide +kernel) ?_
    exact W.iret hx hb hr (fun t ht hW => ⟨⟨_, (fo, dy, mu, g0, g1, g4, pa, (fun k => [(si 0), (si 1), (si 2), (si 3)].getD k (si 0)), (fun k => [(sl 0), (sl 1), (sl 2), (sl 3)].getD k (sl 0)), (fun k => [(sf 0), (sf 1), (sf 2), (sf 3)].getD k (sf 0)), (fun k => [(sd 0), (sd 1), (sd 2), (sd 3)].getD k (sd 0))), rfl, hst, by rw [ht]; exact hP.sub [0, 1, 2, 3, 4, 5, 6, 7, 8, 9, 10, 11, 12, 13, 14, 15, 16, 17, 18, 19, 20, 21, 22, 23, 24, 25, 26, 27, 28, 29, 30, 31, 32, 33, 34, 35] rfl, hD.sub [0, 1, 2, 3, 4, 5, 6, 7, 8, 9, 10, 11, 12, 13, 14, 15, 16, 17, 18, 19, 20, 21, 22, 23, 24, 25, 26, 27, 28, 29, 30, 31, 32, 33, 34, 35] (by decide +kernel) rfl⟩, hS.F ht⟩) hS.2.2 dX12_dues_22
end
