/-- settle, where what is asked is less than d deep -/
def cS_settle (l : Launch) (D : va_G) (T : Nat → ClassId) (ad sa av : Nat → Nat) (ta : Nat) (d : Nat) : Prop := ∀ (sz : Nat) (h0 : Nat) (la : Nat) (cl : Nat) (p0 : Nat) (p1 : Nat) (p4 : Nat) (n : Int32) (l9 : Nat → Int32) (n0 : Int32) (c1 : Nat) (c2 : Nat) (c3 : Nat) (c4 : Nat) (c5 : Nat) (c6 : Nat) (c7 : Nat) (f1 : Nat → Int32) (f2 : Nat → Int32) (f3 : Nat → Int32) (f4 : Nat → Int32) (f5 : Nat → Int32) (g0 : Nat → Int64) (g1 : Nat → Int64) (g4 : Nat → Int32) (x1 x2 x3 : Int32) (_ : 0 ≤ x1.toInt ∧ x1.toInt < 24) (_ : 0 ≤ x2.toInt ∧ x2.toInt ≤ 6) (_ : 0 ≤ x3.toInt ∧ x3.toInt ≤ x2.toInt) (_ : okC f1 f3 f4 f5) (_ : x1.toInt < n0.toInt) (_ : memW (VALW l9 f1 f2 f3 f4 f5) n0 n g0 g1 g4) (_ : (1 ≤ (l9 4).toInt ∧ (l9 4).toInt ≤ 9) ∧ 1 ≤ (l9 6).toInt ∧ (l9 6).toInt ≤ 9) (_ : x1.toInt + (6 - x2.toInt) < d), Met l yX11_settle wsX11_settle ({ frames := 2 * d + 6, cells := 0, slots := 0, locals := 64 * d + 250 }) (pWk [.ref h0, .int x1, .int x2, .int x3] D T [(h0, .inr (8, [.ref la, .ref cl, .ref p0, .ref p1, .ref p4, .int n])), (la, .inr (5, [.int (l9 0), .int (l9 1), .int (l9 2), .int (l9 3), .int (l9 4), .int (l9 5), .int (l9 6)])), (cl, .inr (1, [.int n0, .ref c1, .ref c2, .ref c3, .ref c4, .ref c5, .ref c6, .ref c7])), (c1, .inl (T 0, 24, .inl f1)), (c2, .inl (T 0, 24, .inl f2)), (c3, .inl (T 0, 24, .inl f3)), (c4, .inl (T 0, 24, .inl f4)), (c5, .inl (T 0, 24, .inl f5)), (p0, .inl (T 1, 676, .inr (.inl g0))), (p1, .inl (T 1, 676, .inr (.inl g1))), (p4, .inl (T 0, 672, .inl g4))] sz ad sa av ta) (va_Qi (fun (r : Int32) (u : (Nat → Int64) × (Nat → Int64) × (Nat → Int32)) => (0 ≤ r.toInt ∧ r.toInt < 672) ∧ r.toNatClampNeg = slN x1 x2 x3 ∧ u.2.2 (slN x1 x2 x3) = n ∧ stW (VALW l9 f1 f2 f3 f4 f5) n0 n (rgW x1 x2) g0 g1 g4 u.1 u.2.1 u.2.2) (bW D (va_A [(h0, .inr (8, [.ref la, .ref cl, .ref p0, .ref p1, .ref p4, .int n])), (la, .inr (5, [.int (l9 0), .int (l9 1), .int (l9 2), .int (l9 3), .int (l9 4), .int (l9 5), .int (l9 6)])), (cl, .inr (1, [.int n0, .ref c1, .ref c2, .ref c3, .ref c4, .ref c5, .ref c6, .ref c7])), (c1, .inl (T 0, 24, .inl f1)), (c2, .inl (T 0, 24, .inl f2)), (c3, .inl (T 0, 24, .inl f3)), (c4, .inl (T 0, 24, .inl f4)), (c5, .inl (T 0, 24, .inl f5)), (p0, .inl (T 1, 676, .inr (.inl g0))), (p1, .inl (T 1, 676, .inr (.inl g1))), (p4, .inl (T 0, 672, .inl g4))] sz) (fun (u : (Nat → Int64) × (Nat → Int64) × (Nat → Int32)) => [(h0, .inr (8, [.ref la, .ref cl, .ref p0, .ref p1, .ref p4, .int n])), (la, .inr (5, [.int (l9 0), .int (l9 1), .int (l9 2), .int (l9 3), .int (l9 4), .int (l9 5), .int (l9 6)])), (cl, .inr (1, [.int n0, .ref c1, .ref c2, .ref c3, .ref c4, .ref c5, .ref c6, .ref c7])), (c1, .inl (T 0, 24, .inl f1)), (c2, .inl (T 0, 24, .inl f2)), (c3, .inl (T 0, 24, .inl f3)), (c4, .inl (T 0, 24, .inl f4)), (c5, .inl (T 0, 24, .inl f5)), (p0, .inl (T 1, 676, .inr (.inl u.1))), (p1, .inl (T 1, 676, .inr (.inl u.2.1))), (p4, .inl (T 0, 672, .inl u.2.2))])) (va_A [(h0, .inr (8, [.ref la, .ref cl, .ref p0, .ref p1, .ref p4, .int n])), (la, .inr (5, [.int (l9 0), .int (l9 1), .int (l9 2), .int (l9 3), .int (l9 4), .int (l9 5), .int (l9 6)])), (cl, .inr (1, [.int n0, .ref c1, .ref c2, .ref c3, .ref c4, .ref c5, .ref c6, .ref c7])), (c1, .inl (T 0, 24, .inl f1)), (c2, .inl (T 0, 24, .inl f2)), (c3, .inl (T 0, 24, .inl f3)), (c4, .inl (T 0, 24, .inl f4)), (c5, .inl (T 0, 24, .inl f5)), (p0, .inl (T 1, 676, .inr (.inl g0))), (p1, .inl (T 1, 676, .inr (.inl g1))), (p4, .inl (T 0, 672, .inl g4))] sz)) 0 0 (va_A [(h0, .inr (8, [.ref la, .ref cl, .ref p0, .ref p1, .ref p4, .int n])), (la, .inr (5, [.int (l9 0), .int (l9 1), .int (l9 2), .int (l9 3), .int (l9 4), .int (l9 5), .int (l9 6)])), (cl, .inr (1, [.int n0, .ref c1, .ref c2, .ref c3, .ref c4, .ref c5, .ref c6, .ref c7])), (c1, .inl (T 0, 24, .inl f1)), (c2, .inl (T 0, 24, .inl f2)), (c3, .inl (T 0, 24, .inl f3)), (c4, .inl (T 0, 24, .inl f4)), (c5, .inl (T 0, 24, .inl f5)), (p0, .inl (T 1, 676, .inr (.inl g0))), (p1, .inl (T 1, 676, .inr (.inl g1))), (p4, .inl (T 0, 672, .inl g4))] sz)
theorem dX11_picked_0 : decode cX11_picked 0 = .ok (.aload_n 0, 1) := by decide +kernel
theorem dX11_picked_1 : decode cX11_picked 1 = .ok (.getfield 30, 3) := by decide +kernel
theorem dX11_picked_102 : decode cX11_picked 102 = .ok (.if_acmp .eq 17, 3) := by decide +kernel
theorem dX11_picked_105 : decode cX11_picked 105 = .ok (.iload_n 2, 1) := by decide +kernel
theorem dX11_picked_106 : decode cX11_picked 106 = .ok (.aload_n 0, 1) := by decide +kernel
theorem dX11_picked_107 : decode cX11_picked 107 = .ok (.getfield 30, 3) := by decide +kernel
theorem dX11_picked_11 : decode cX11_picked 11 = .ok (.aload_n 0, 1) := by decide +kernel
theorem dX11_picked_110 : decode cX11_picked 110 = .ok (.getfield 45, 3) := by decide +kernel
theorem dX11_picked_113 : decode cX11_picked 113 = .ok (.iload 5, 2) := by decide +kernel
theorem dX11_picked_115 : decode cX11_picked 115 = .ok (.iaload, 1) := by decide +kernel
theorem dX11_picked_116 : decode cX11_picked 116 = .ok (.if_icmp .le 6, 3) := by decide +kernel
theorem dX11_picked_119 : decode cX11_picked 119 = .ok (.iload 4, 2) := by decide +kernel
theorem dX11_picked_12 : decode cX11_picked 12 = .ok (.getfield 30, 3) := by decide +kernel
theorem dX11_picked_121 : decode cX11_picked 121 = .ok (.ireturn, 1) := by decide +kernel
theorem dX11_picked_122 : decode cX11_picked 122 = .ok (.aload_n 0, 1) := by decide +kernel
theorem dX11_picked_123 : decode cX11_picked 123 = .ok (.iload 4, 2) := by decide +kernel
theorem dX11_picked_125 : decode cX11_picked 125 = .ok (.iload_n 2, 1) := by decide +kernel
theorem dX11_picked_126 : decode cX11_picked 126 = .ok (.iload_n 3, 1) := by decide +kernel
theorem dX11_picked_127 : decode cX11_picked 127 = .ok (.invokevirtual 71, 3) := by decide +kernel
theorem dX11_picked_130 : decode cX11_picked 130 = .ok (.istore 7, 2) := by decide +kernel
theorem dX11_picked_132 : decode cX11_picked 132 = .ok (.aload_n 0, 1) := by decide +kernel
theorem dX11_picked_133 : decode cX11_picked 133 = .ok (.iload 5, 2) := by decide +kernel
theorem dX11_picked_135 : decode cX11_picked 135 = .ok (.iload_n 2, 1) := by decide +kernel
theorem dX11_picked_136 : decode cX11_picked 136 = .ok (.iload_n 3, 1) := by decide +kernel
theorem dX11_picked_137 : decode cX11_picked 137 = .ok (.invokevirtual 71, 3) := by decide +kernel
theorem dX11_picked_140 : decode cX11_picked 140 = .ok (.istore 8, 2) := by decide +kernel
theorem dX11_picked_142 : decode cX11_picked 142 = .ok (.aload_n 0, 1) := by decide +kernel
theorem dX11_picked_143 : decode cX11_picked 143 = .ok (.iload 7, 2) := by decide +kernel
theorem dX11_picked_145 : decode cX11_picked 145 = .ok (.invokevirtual 34, 3) := by decide +kernel
theorem dX11_picked_148 : decode cX11_picked 148 = .ok (.ifCond .ne 12, 3) := by decide +kernel
theorem dX11_picked_15 : decode cX11_picked 15 = .ok (.getfield 90, 3) := by decide +kernel
theorem dX11_picked_151 : decode cX11_picked 151 = .ok (.aload_n 0, 1) := by decide +kernel
theorem dX11_picked_152 : decode cX11_picked 152 = .ok (.iload 8, 2) := by decide +kernel
theorem dX11_picked_154 : decode cX11_picked 154 = .ok (.invokevirtual 34, 3) := by decide +kernel
theorem dX11_picked_157 : decode cX11_picked 157 = .ok (.ifCond .eq 6, 3) := by decide +kernel
theorem dX11_picked_160 : decode cX11_picked 160 = .ok (.bipush (-5), 2) := by decide +kernel
theorem dX11_picked_162 : decode cX11_picked 162 = .ok (.ireturn, 1) := by decide +kernel
theorem dX11_picked_163 : decode cX11_picked 163 = .ok (.aload_n 0, 1) := by decide +kernel
theorem dX11_picked_164 : decode cX11_picked 164 = .ok (.iload 8, 2) := by decide +kernel
theorem dX11_picked_166 : decode cX11_picked 166 = .ok (.iload 7, 2) := by decide +kernel
theorem dX11_picked_168 : decode cX11_picked 168 = .ok (.invokevirtual 114, 3) := by decide +kernel
theorem dX11_picked_171 : decode cX11_picked 171 = .ok (.istore 9, 2) := by decide +kernel
theorem dX11_picked_173 : decode cX11_picked 173 = .ok (.aload 6, 2) := by decide +kernel
theorem dX11_picked_175 : decode cX11_picked 175 = .ok (.getstatic 126, 3) := by decide +kernel
theorem dX11_picked_178 : decode cX11_picked 178 = .ok (.if_acmp .ne 11, 3) := by decide +kernel
theorem dX11_picked_18 : decode cX11_picked 18 = .ok (.iload_n 1, 1) := by decide +kernel
theorem dX11_picked_181 : decode cX11_picked 181 = .ok (.iload 9, 2) := by decide +kernel
theorem dX11_picked_183 : decode cX11_picked 183 = .ok (.ifCond .le 16, 3) := by decide +kernel
theorem dX11_picked_186 : decode cX11_picked 186 = .ok (.goto 8, 3) := by decide +kernel
theorem dX11_picked_189 : decode cX11_picked 189 = .ok (.iload 9, 2) := by decide +kernel
theorem dX11_picked_19 : decode cX11_picked 19 = .ok (.iaload, 1) := by decide +kernel
theorem dX11_picked_191 : decode cX11_picked 191 = .ok (.ifCond .ge 8, 3) := by decide +kernel
theorem dX11_picked_194 : decode cX11_picked 194 = .ok (.iload 5, 2) := by decide +kernel
theorem dX11_picked_196 : decode cX11_picked 196 = .ok (.goto 5, 3) := by decide +kernel
theorem dX11_picked_199 : decode cX11_picked 199 = .ok (.iload 4, 2) := by decide +kernel
theorem dX11_picked_20 : decode cX11_picked 20 = .ok (.istore 5, 2) := by decide +kernel
theorem dX11_picked_201 : decode cX11_picked 201 = .ok (.ireturn, 1) := by decide +kernel
theorem dX11_picked_22 : decode cX11_picked 22 = .ok (.aload_n 0, 1) := by decide +kernel
theorem dX11_picked_23 : decode cX11_picked 23 = .ok (.getfield 30, 3) := by decide +kernel
theorem dX11_picked_26 : decode cX11_picked 26 = .ok (.iload_n 1, 1) := by decide +kernel
theorem dX11_picked_27 : decode cX11_picked 27 = .ok (.invokevirtual 54, 3) := by decide +kernel
theorem dX11_picked_30 : decode cX11_picked 30 = .ok (.astore 6, 2) := by decide +kernel
theorem dX11_picked_32 : decode cX11_picked 32 = .ok (.aload 6, 2) := by decide +kernel
theorem dX11_picked_34 : decode cX11_picked 34 = .ok (.getstatic 117, 3) := by decide +kernel
theorem dX11_picked_37 : decode cX11_picked 37 = .ok (.if_acmp .ne 6, 3) := by decide +kernel
theorem dX11_picked_4 : decode cX11_picked 4 = .ok (.getfield 40, 3) := by decide +kernel
theorem dX11_picked_40 : decode cX11_picked 40 = .ok (.iload 4, 2) := by decide +kernel
theorem dX11_picked_42 : decode cX11_picked 42 = .ok (.ireturn, 1) := by decide +kernel
theorem dX11_picked_43 : decode cX11_picked 43 = .ok (.aload 6, 2) := by decide +kernel
theorem dX11_picked_45 : decode cX11_picked 45 = .ok (.getstatic 120, 3) := by decide +kernel
theorem dX11_picked_48 : decode cX11_picked 48 = .ok (.if_acmp .ne 32, 3) := by decide +kernel
theorem dX11_picked_51 : decode cX11_picked 51 = .ok (.aload_n 0, 1) := by decide +kernel
theorem dX11_picked_52 : decode cX11_picked 52 = .ok (.getfield 26, 3) := by decide +kernel
theorem dX11_picked_55 : decode cX11_picked 55 = .ok (.iload_n 2, 1) := by decide +kernel
theorem dX11_picked_56 : decode cX11_picked 56 = .ok (.iload_n 3, 1) := by decide +kernel
theorem dX11_picked_57 : decode cX11_picked 57 = .ok (.invokevirtual 84, 3) := by decide +kernel
theorem dX11_picked_60 : decode cX11_picked 60 = .ok (.aload_n 0, 1) := by decide +kernel
theorem dX11_picked_61 : decode cX11_picked 61 = .ok (.getfield 30, 3) := by decide +kernel
theorem dX11_picked_64 : decode cX11_picked 64 = .ok (.getfield 81, 3) := by decide +kernel
theorem dX11_picked_67 : decode cX11_picked 67 = .ok (.iload_n 1, 1) := by decide +kernel
theorem dX11_picked_68 : decode cX11_picked 68 = .ok (.iaload, 1) := by decide +kernel
theorem dX11_picked_69 : decode cX11_picked 69 = .ok (.if_icmp .lt 8, 3) := by decide +kernel
theorem dX11_picked_7 : decode cX11_picked 7 = .ok (.iload_n 1, 1) := by decide +kernel
theorem dX11_picked_72 : decode cX11_picked 72 = .ok (.iload 4, 2) := by decide +kernel
theorem dX11_picked_74 : decode cX11_picked 74 = .ok (.goto 5, 3) := by decide +kernel
theorem dX11_picked_77 : decode cX11_picked 77 = .ok (.iload 5, 2) := by decide +kernel
theorem dX11_picked_79 : decode cX11_picked 79 = .ok (.ireturn, 1) := by decide +kernel
theorem dX11_picked_8 : decode cX11_picked 8 = .ok (.iaload, 1) := by decide +kernel
theorem dX11_picked_80 : decode cX11_picked 80 = .ok (.iload_n 2, 1) := by decide +kernel
theorem dX11_picked_81 : decode cX11_picked 81 = .ok (.aload_n 0, 1) := by decide +kernel
theorem dX11_picked_82 : decode cX11_picked 82 = .ok (.getfield 30, 3) := by decide +kernel
theorem dX11_picked_85 : decode cX11_picked 85 = .ok (.getfield 45, 3) := by decide +kernel
theorem dX11_picked_88 : decode cX11_picked 88 = .ok (.iload 4, 2) := by decide +kernel
theorem dX11_picked_9 : decode cX11_picked 9 = .ok (.istore 4, 2) := by decide +kernel
theorem dX11_picked_90 : decode cX11_picked 90 = .ok (.iaload, 1) := by decide +kernel
theorem dX11_picked_91 : decode cX11_picked 91 = .ok (.if_icmp .le 6, 3) := by decide +kernel
theorem dX11_picked_94 : decode cX11_picked 94 = .ok (.iload 5, 2) := by decide +kernel
theorem dX11_picked_96 : decode cX11_picked 96 = .ok (.ireturn, 1) := by decide +kernel
theorem dX11_picked_97 : decode cX11_picked 97 = .ok (.aload 6, 2) := by decide +kernel
theorem dX11_picked_99 : decode cX11_picked 99 = .ok (.getstatic 123, 3) := by decide +kernel
set_option maxRecDepth 20000 in
theorem ggX11_picked_X11_isMuch : GoodIn wsX11_picked wsX11_isMuch := goodIn_r _ [32, 33, 106, 107, 108, 109, 110, 111] rfl (by decide +kernel)
set_option maxRecDepth 20000 in
theorem ggX11_picked_X11_order : GoodIn wsX11_picked wsX11_order := goodIn_r _ [37, 38, 33, 39, 40, 41, 42, 43, 44, 45, 106, 107, 108, 109, 110, 111] rfl (by decide +kernel)
set_option maxRecDepth 20000 in
theorem ggX11_picked_X11_settle : GoodIn wsX11_picked wsX11_settle := goodIn_r _ [79, 80, 81, 1, 2, 8, 82, 83, 58, 7, 6, 3, 84, 11, 12, 13, 14, 15, 16, 85, 86, 87, 88, 89, 90, 91, 60, 61, 62, 28, 63, 38, 33, 25, 26, 27, 51, 52, 53, 54, 55, 56, 57, 59, 64, 65, 66, 67, 68, 69, 70, 71, 17, 18, 19, 20, 21, 22, 23, 24, 72, 73, 74, 75, 76, 77, 78, 92, 93, 94, 95, 96, 97, 98, 99, 100, 101, 102, 29, 30, 31, 32, 34, 35, 36, 37, 39, 40, 41, 42, 43, 44, 45, 103, 104, 105, 46, 47, 48, 49, 50, 0, 4, 5, 9, 10, 106, 107, 108, 109, 110, 111, 112, 113, 114, 115, 116, 117, 118, 119, 120, 121, 122, 123, 124, 125, 126] rfl (by decide +kernel)
set_option maxRecDepth 20000 in
theorem ggX11_picked_X2_kindOf : GoodIn wsX11_picked wsX2_kindOf := goodIn_r _ [15, 16, 119, 120, 121, 122, 123, 124, 125, 126] rfl (by decide +kernel)
set_option maxRecDepth 20000 in
theorem ggX11_picked_X8_priceAt : GoodIn wsX11_picked wsX8_priceAt := goodIn_r _ [21, 22, 23, 24, 112, 113, 114, 115, 116, 117, 118] rfl (by decide +kernel)
set_option maxRecDepth 20000 in
theorem gX11_picked_X11_isMuch : GoodIn wsX11_picked (wsV RX11 34 RX11 yX11_isMuch wsX11_isMuch) := goodIn_app (goodIn_r _ [29, 30, 31, 28] rfl (by decide +kernel)) ggX11_picked_X11_isMuch
set_option maxRecDepth 20000 in
theorem gX11_picked_X11_order : GoodIn wsX11_picked (wsV RX11 114 RX11 yX11_order wsX11_order) := goodIn_app (goodIn_r _ [34, 35, 36, 28] rfl (by decide +kernel)) ggX11_picked_X11_order
set_option maxRecDepth 20000 in
theorem gX11_picked_X11_settle : GoodIn wsX11_picked (wsV RX11 71 RX11 yX11_settle wsX11_settle) := goodIn_app (goodIn_r _ [25, 26, 27, 28] rfl (by decide +kernel)) ggX11_picked_X11_settle
set_option maxRecDepth 20000 in
theorem gX11_picked_X2_kindOf : GoodIn wsX11_picked (wsV RX11 54 RX2 yX2_kindOf wsX2_kindOf) := goodIn_app (goodIn_r _ [11, 12, 13, 14] rfl (by decide +kernel)) ggX11_picked_X2_kindOf
set_option maxRecDepth 20000 in
theorem gX11_picked_X8_priceAt : GoodIn wsX11_picked (wsV RX11 84 RX8 yX8_priceAt wsX8_priceAt) := goodIn_app (goodIn_r _ [17, 18, 19, 20] rfl (by decide +kernel)) ggX11_picked_X8_priceAt
theorem hv_X11_settle : yX11_settle.cls = RX11 ∧ yX11_settle.cls ≠ "java/lang/invoke/MethodHandle" ∧ yX11_settle.cls ≠ "java/lang/invoke/VarHandle" ∧ (parseMethodDescriptor yX11_settle.desc).map (fun d => d.parameters.length) = some 3 := by decide +kernel
set_option maxRecDepth 20000 in
theorem in_X11_picked_X11 : ∀ w ∈ wsX110, w ∈ wsX11_picked := sub_r [106, 107, 108, 109, 110, 111] rfl
set_option maxRecDepth 20000 in
theorem in_X11_picked_X2 : ∀ w ∈ wsX20, w ∈ wsX11_picked := sub_r [119, 120, 121, 122, 123, 124, 125, 126] rfl
set_option maxHeartbeats 4000000 in
set_option maxRecDepth 100000 in
theorem s_X11_picked (l : Launch) (D : va_G) (T : Nat → ClassId) (ad sa av : Nat → Nat) (ta : Nat) (sz : Nat) (h0 : Nat) (la : Nat) (cl : Nat) (p0 : Nat) (p1 : Nat) (p4 : Nat) (n : Int32) (l9 : Nat → Int32) (n0 : Int32) (c1 : Nat) (c2 : Nat) (c3 : Nat) (c4 : Nat) (c5 : Nat) (c6 : Nat) (c7 : Nat) (f1 : Nat → Int32) (f2 : Nat → Int32) (f3 : Nat → Int32) (f4 : Nat → Int32) (f5 : Nat → Int32) (g0 : Nat → Int64) (g1 : Nat → Int64) (g4 : Nat → Int32) (d : Nat) (x1 : Int32) (x2 : Int32) (x3 : Int32) (hx : 0 ≤ x1.toInt ∧ x1.toInt < 24) (hd : 0 ≤ x2.toInt ∧ x2.toInt ≤ 6) (hsp : 0 ≤ x3.toInt ∧ x3.toInt ≤ x2.toInt) (hok : okC f1 f3 f4 f5) (hxn : x1.toInt < n0.toInt) (hmm : memW (VALW l9 f1 f2 f3 f4 f5) n0 n g0 g1 g4) (hlq : (1 ≤ (l9 4).toInt ∧ (l9 4).toInt ≤ 9) ∧ 1 ≤ (l9 6).toInt ∧ (l9 6).toInt ≤ 9) (hdep : x1.toInt + (6 - x2.toInt) < d + 1) (hkp : (f1 (x1.toNatClampNeg)).toNatClampNeg = 6 ∨ (f1 (x1.toNatClampNeg)).toNatClampNeg = 7 ∨ (f1 (x1.toNatClampNeg)).toNatClampNeg = 8 ∨ (f1 (x1.toNatClampNeg)).toNatClampNeg = 9 ∨ (f1 (x1.toNatClampNeg)).toNatClampNeg = 12) (hrec : cS_settle l D T ad sa av ta d) : Met l yX11_picked wsX11_picked ({ frames := 2 * d + 7, cells := 0, slots := 0, locals := 64 * d + 280 }) (pWk [.ref h0, .int x1, .int x2, .int x3] D T [(h0, .inr (8, [.ref la, .ref cl, .ref p0, .ref p1, .ref p4, .int n])), (la, .inr (5, [.int (l9 0), .int (l9 1), .int (l9 2), .int (l9 3), .int (l9 4), .int (l9 5), .int (l9 6)])), (cl, .inr (1, [.int n0, .ref c1, .ref c2, .ref c3, .ref c4, .ref c5, .ref c6, .ref c7])), (c1, .inl (T 0, 24, .inl f1)), (c2, .inl (T 0, 24, .inl f2)), (c3, .inl (T 0, 24, .inl f3)), (c4, .inl (T 0, 24, .inl f4)), (c5, .inl (T 0, 24, .inl f5)), (p0, .inl (T 1, 676, .inr (.inl g0))), (p1, .inl (T 1, 676, .inr (.inl g1))), (p4, .inl (T 0, 672, .inl g4))] sz ad sa av ta) (va_Qi (fun (r : Int32) (u : (Nat → Int64) × (Nat → Int64) × (Nat → Int32)) => (r.toInt = -5 ∨ (0 ≤ r.toInt ∧ r.toInt < x1.toInt)) ∧ r = pickW l9 f1 f2 f3 f4 f5 (VALW l9 f1 f2 f3 f4 f5) x1 x2 x3 ∧ stW (VALW l9 f1 f2 f3 f4 f5) n0 n (rgP x1) g0 g1 g4 u.1 u.2.1 u.2.2) (bW D (va_A [(h0, .inr (8, [.ref la, .ref cl, .ref p0, .ref p1, .ref p4, .int n])), (la, .inr (5, [.int (l9 0), .int (l9 1), .int (l9 2), .int (l9 3), .int (l9 4), .int (l9 5), .int (l9 6)])), (cl, .inr (1, [.int n0, .ref c1, .ref c2, .ref c3, .ref c4, .ref c5, .ref c6, .ref c7])), (c1, .inl (T 0, 24, .inl f1)), (c2, .inl (T 0, 24, .inl f2)), (c3, .inl (T 0, 24, .inl f3)), (c4, .inl (T 0, 24, .inl f4)), (c5, .inl (T 0, 24, .inl f5)), (p0, .inl (T 1, 676, .inr (.inl g0))), (p1, .inl (T 1, 676, .inr (.inl g1))), (p4, .inl (T 0, 672, .inl g4))] sz) (fun (u : (Nat → Int64) × (Nat → Int64) × (Nat → Int32)) => [(h0, .inr (8, [.ref la, .ref cl, .ref p0, .ref p1, .ref p4, .int n])), (la, .inr (5, [.int (l9 0), .int (l9 1), .int (l9 2), .int (l9 3), .int (l9 4), .int (l9 5), .int (l9 6)])), (cl, .inr (1, [.int n0, .ref c1, .ref c2, .ref c3, .ref c4, .ref c5, .ref c6, .ref c7])), (c1, .inl (T 0, 24, .inl f1)), (c2, .inl (T 0, 24, .inl f2)), (c3, .inl (T 0, 24, .inl f3)), (c4, .inl (T 0, 24, .inl f4)), (c5, .inl (T 0, 24, .inl f5)), (p0, .inl (T 1, 676, .inr (.inl u.1))), (p1, .inl (T 1, 676, .inr (.inl u.2.1))), (p4, .inl (T 0, 672, .inl u.2.2))])) (va_A [(h0, .inr (8, [.ref la, .ref cl, .ref p0, .ref p1, .ref p4, .int n])), (la, .inr (5, [.int (l9 0), .int (l9 1), .int (l9 2), .int (l9 3), .int (l9 4), .int (l9 5), .int (l9 6)])), (cl, .inr (1, [.int n0, .ref c1, .ref c2, .ref c3, .ref c4, .ref c5, .ref c6, .ref c7])), (c1, .inl (T 0, 24, .inl f1)), (c2, .inl (T 0, 24, .inl f2)), (c3, .inl (T 0, 24, .inl f3)), (c4, .inl (T 0, 24, .inl f4)), (c5, .inl (T 0, 24, .inl f5)), (p0, .inl (T 1, 676, .inr (.inl g0))), (p1, .inl (T 1, 676, .inr (.inl g1))), (p4, .inl (T 0, 672, .inl g4))] sz)) 0 0 (va_A [(h0, .inr (8, [.ref la, .ref cl, .ref p0, .ref p1, .ref p4, .int n])), (la, .inr (5, [.int (l9 0), .int (l9 1), .int (l9 2), .int (l9 3), .int (l9 4), .int (l9 5), .int (l9 6)])), (cl, .inr (1, [.int n0, .ref c1, .ref c2, .ref c3, .ref c4, .ref c5, .ref c6, .ref c7])), (c1, .inl (T 0, 24, .inl f1)), (c2, .inl (T 0, 24, .inl f2)), (c3, .inl (T 0, 24, .inl f3)), (c4, .inl (T 0, 24, .inl f4)), (c5, .inl (T 0, 24, .inl f5)), (p0, .inl (T 1, 676, .inr (.inl g0))), (p1, .inl (T 1, 676, .inr (.inl g1))), (p4, .inl (T 0, 672, .inl g4))] sz) := by
  refine Met.ofW (cc := cX11_picked) (maxL := 10) (ret := (some .int)) (by decide +kernel) rfl ?_
  intro p e s m args below meth c s₁ B hml hv
  obtain ⟨rfl, hsz, hP, hE, hD0, hV⟩ := hv
  have hx := B.exec
  have hb := B.bytes
  have hr := B.returns
  have hts := atoms_spec (ws := wsX11_picked) B.pre
  have hown : s.vm.findClass RX11 = some m.cls := findClass_of_methodNamed B.named
  have hlocks := B.notSynchronized
  subst hsz
  have hD := hD0.self (sz := s.heap.size)
  generalize hAe : va_A [(h0, .inr (8, [.ref la, .ref cl, .ref p0, .ref p1, .ref p4, .int n])), (la, .inr (5, [.int (l9 0), .int (l9 1), .int (l9 2), .int (l9 3), .int (l9 4), .int (l9 5), .int (l9 6)])), (cl, .inr (1, [.int n0, .ref c1, .ref c2, .ref c3, .ref c4, .ref c5, .ref c6, .ref c7])), (c1, .inl (T 0, 24, .inl f1)), (c2, .inl (T 0, 24, .inl f2)), (c3, .inl (T 0, 24, .inl f3)), (c4, .inl (T 0, 24, .inl f4)), (c5, .inl (T 0, 24, .inl f5)), (p0, .inl (T 1, 676, .inr (.inl g0))), (p1, .inl (T 1, 676, .inr (.inl g1))), (p4, .inl (T 0, 672, .inl g4))] s.heap.size = A at hD hV ⊢
  have hA : ∀ q : Nat, s.heap.size ≤ q → A q := fun q h => by rw [← hAe]; exact Or.inr h
  have hS : va_S A s.heap s.heap [] := va_S.rf
  have hP : va_P D vwCl [(h0, .inr (8, [.ref la, .ref cl, .ref p0, .ref p1, .ref p4, .int n])), (la, .inr (5, [.int (l9 0), .int (l9 1), .int (l9 2), .int (l9 3), .int (l9 4), .int (l9 5), .int (l9 6)])), (cl, .inr (1, [.int n0, .ref c1, .ref c2, .ref c3, .ref c4, .ref c5, .ref c6, .ref c7])), (c1, .inl (T 0, 24, .inl f1)), (c2, .inl (T 0, 24, .inl f2)), (c3, .inl (T 0, 24, .inl f3)), (c4, .inl (T 0, 24, .inl f4)), (c5, .inl (T 0, 24, .inl f5)), (p0, .inl (T 1, 676, .inr (.inl g0))), (p1, .inl (T 1, 676, .inr (.inl g1))), (p4, .inl (T 0, 672, .inl g4))] s.heap := hP
  have hl := lv_entry ([.ref h0, .int x1, .int x2, .int x3]) (n := 10) (Nat.le_of_ble_eq_true rfl)
  rw [lg_entry_eq]
  generalize (lg_sl ([.ref h0, .int x1, .int x2, .int x3]) ++ List.replicate (10 - (lg_sl ([.ref h0, .int x1, .int x2, .int x3])).length) Slot.unset).toArray = ls at hl ⊢
  have hl : lv_has ls 10 [(0, .ref h0), (1, .int x1), (2, .int x2), (3, .int x3)] := hl
  clear hD0
  have hst : stW (VALW l9 f1 f2 f3 f4 f5) n0 n (rgP x1) g0 g1 g4 g0 g1 g4 := stW_rf hmm
  refine lv_aload_n hx hb dX11_picked_0 rfl (lv_at hl 0 rfl) ?_
  refine va_get (D := D) (ci := 8) (v := .ref cl) (C := RX11) (T := TX11) (N := 6) hx hb hts in_X11_picked_X11 hown hE.1 hP 0 rfl rfl 1 (by decide +kernel) (hts (.fieldLink RX11 30 "ClauseBook$Worth" "clauses" "LClauseBook$Clauses;") (List.mem_of_getElem? (i := 1) rfl)) (fun _ h9 => h9) rfl dX11_picked_1 ?_
  refine va_get (D := D) (ci := 1) (v := .ref c3) (C := RX2) (T := TX2) (N := 8) hx hb hts in_X11_picked_X2 hown hE.1 hP 2 rfl rfl 3 (by decide +kernel) (hts (.fieldLink RX11 40 "ClauseBook$Clauses" "c" "[I") (List.mem_of_getElem? (i := 2) rfl)) (fun _ h9 => h9) rfl dX11_picked_4 ?_
  refine lv_iload_n hx hb dX11_picked_7 rfl (lv_at hl 1 rfl) ?_
  refine va_iald hx hb hE.1 hP 5 0 rfl rfl (by rw [vp_in_iff]; first | omega | (subst_vars; omega)) dX11_picked_8 ?_
  refine lv_topi (fun z_1 ez_1 => ?_)
  refine lv_istore (lv' := [(4, .int z_1), (0, .ref h0), (1, .int x1), (2, .int x2), (3, .int x3)]) hx hb dX11_picked_9 hl (by decide +kernel) rfl (fun ls hl => ?_)
  refine lv_aload_n hx hb dX11_picked_11 rfl (lv_at hl 1 rfl) ?_
  refine va_get (D := D) (ci := 8) (v := .ref cl) (C := RX11) (T := TX11) (N := 6) hx hb hts in_X11_picked_X11 hown hE.1 hP 0 rfl rfl 1 (by decide +kernel) (hts (.fieldLink RX11 30 "ClauseBook$Worth" "clauses" "LClauseBook$Clauses;") (List.mem_of_getElem? (i := 1) rfl)) (fun _ h9 => h9) rfl dX11_picked_12 ?_
  refine va_get (D := D) (ci := 1) (v := .ref c4) (C := RX2) (T := TX2) (N := 8) hx hb hts in_X11_picked_X2 hown hE.1 hP 2 rfl rfl 4 (by decide +kernel) (hts (.fieldLink RX11 90 "ClauseBook$Clauses" "d" "[I") (List.mem_of_getElem? (i := 3) rfl)) (fun _ h9 => h9) rfl dX11_picked_15 ?_
  refine lv_iload_n hx hb dX11_picked_18 rfl (lv_at hl 2 rfl) ?_
  refine va_iald hx hb hE.1 hP 6 0 rfl rfl (by rw [vp_in_iff]; first | omega | (subst_vars; omega)) dX11_picked_19 ?_
  refine lv_topi (fun z_2 ez_2 => ?_)
  refine lv_istore (lv' := [(5, .int z_2), (4, .int z_1), (0, .ref h0), (1, .int x1), (2, .int x2), (3, .int x3)]) hx hb dX11_picked_20 hl (by decide +kernel) rfl (fun ls hl => ?_)
  refine lv_aload_n hx hb dX11_picked_22 rfl (lv_at hl 2 rfl) ?_
  refine va_get (D := D) (ci := 8) (v := .ref cl) (C := RX11) (T := TX11) (N := 6) hx hb hts in_X11_picked_X11 hown hE.1 hP 0 rfl rfl 1 (by decide +kernel) (hts (.fieldLink RX11 30 "ClauseBook$Worth" "clauses" "LClauseBook$Clauses;") (List.mem_of_getElem? (i := 1) rfl)) (fun _ h9 => h9) rfl dX11_picked_23 ?_
  refine lv_iload_n hx hb dX11_picked_26 rfl (lv_at hl 3 rfl) ?_
  refine va_cse (W.runV (As := [.int x1]) (rest := []) ⟨hx, hb, hml, hown, hts⟩ (c_X2_kindOf l D T ad sa av ta cl [.int n0, .ref c1, .ref c2, .ref c3, .ref c4, .ref c5, .ref c6, .ref c7] c1 f1 x1 rfl (by omega) ((hok _ (in24 (x := x1) (by omega)).1).1)) (cwV 1 hts gX11_picked_X2_kindOf rfl rfl rfl hv_X2_kindOf ⟨(show _ ≤ (2 * d + 7 : Nat) from by (try dsimp only); omega), (show _ ≤ (64 * d + 280 : Nat) from by (try dsimp only); omega)⟩) (pRk_V (q := (RX2, TX2, 8)) (ci := 1) (q0 := 2) hP hE hV hS rfl rfl [2, 3] rfl) rfl rfl hl.1 rfl (lv_room (Nat.le_of_ble_eq_true rfl)) dX11_picked_27 ⟨Nat.le_of_ble_eq_true rfl, Nat.le_of_ble_eq_true rfl⟩) (fun r_3 hr_3 => ?_)
  subst hr_3
  refine W.eq (g2 := F0 m 30 ls [.ref (ad ((f1 (x1.toNatClampNeg)).toNatClampNeg))]) rfl ?_
  rcases hkp with hk9 | hk9 | hk9 | hk9 | hk9
  · refine W.eq (g2 := F0 m 30 ls [.ref (ad 6)]) (by rw [hk9]) ?_
    have hc9 : 0 ≤ z_1.toInt ∧ z_1.toInt < x1.toInt := by
      have h := (hok _ (in24 (x := x1) (by omega)).1).2.1 (by rw [hk9]; decide)
      have h2 := (in24 (x := x1) (by omega)).2
      rw [ez_1]
      omega
    have hd9 : 0 ≤ (f4 (x1.toNatClampNeg)).toInt ∧ (f4 (x1.toNatClampNeg)).toInt < x1.toInt := by
      have h := (hok _ (in24 (x := x1) (by omega)).1).2.2.1 (by rw [hk9]; decide)
      have h2 := (in24 (x := x1) (by omega)).2
      omega
    have hd8 : 0 ≤ z_2.toInt ∧ z_2.toInt < x1.toInt := by rw [ez_2]; exact hd9
    refine lv_astore (lv' := [(6, .ref (ad 6)), (5, .int z_2), (4, .int z_1), (0, .ref h0), (1, .int x1), (2, .int x2), (3, .int x3)]) hx hb dX11_picked_30 hl (by decide +kernel) rfl (fun ls hl => ?_)
    refine lv_aload hx hb dX11_picked_32 (lv_at hl 0 rfl) ?_
    refine va_gets (v := .ref (ad 8)) hx hb (hV.1.1.1 8 (by decide +kernel)).1 hS hown (hts (.fieldLink RX11 117 "ClauseBook$Kind" "UNTIL" "LClauseBook$Kind;") (List.mem_of_getElem? (i := 4) rfl)) (fun _ h9 => h9) dX11_picked_34 ?_
    refine lv_acmp_ne (rx := some (ad 6)) (ry := some (ad 8)) (tgt := 43) hx hb dX11_picked_37 (by decide +kernel) (fun _ => ?_) (fun c9 => absurd c9 (fun h => absurd (hV.1.1.2 6 8 (by decide +kernel) (by decide +kernel) (Option.some.inj h)) (by decide +kernel)))
    refine lv_aload hx hb dX11_picked_43 (lv_at hl 0 rfl) ?_
    refine va_gets (v := .ref (ad 12)) hx hb (hV.1.1.1 12 (by decide +kernel)).1 hS hown (hts (.fieldLink RX11 120 "ClauseBook$Kind" "WHERE" "LClauseBook$Kind;") (List.mem_of_getElem? (i := 5) rfl)) (fun _ h9 => h9) dX11_picked_45 ?_
    refine lv_acmp_ne (rx := some (ad 6)) (ry := some (ad 12)) (tgt := 80) hx hb dX11_picked_48 (by decide +kernel) (fun _ => ?_) (fun c9 => absurd c9 (fun h => absurd (hV.1.1.2 6 12 (by decide +kernel) (by decide +kernel) (Option.some.inj h)) (by decide +kernel)))
    refine lv_iload_n hx hb dX11_picked_80 rfl (lv_at hl 5 rfl) ?_
    refine lv_aload_n hx hb dX11_picked_81 rfl (lv_at hl 3 rfl) ?_
    refine va_get (D := D) (ci := 8) (v := .ref cl) (C := RX11) (T := TX11) (N := 6) hx hb hts in_X11_picked_X11 hown hE.1 hP 0 rfl rfl 1 (by decide +kernel) (hts (.fieldLink RX11 30 "ClauseBook$Worth" "clauses" "LClauseBook$Clauses;") (List.mem_of_getElem? (i := 1) rfl)) (fun _ h9 => h9) rfl dX11_picked_82 ?_
    refine va_get (D := D) (ci := 1) (v := .ref c5) (C := RX2) (T := TX2) (N := 8) hx hb hts in_X11_picked_X2 hown hE.1 hP 2 rfl rfl 5 (by decide +kernel) (hts (.fieldLink RX11 45 "ClauseBook$Clauses" "end" "[I") (List.mem_of_getElem? (i := 8) rfl)) (fun _ h9 => h9) rfl dX11_picked_85 ?_
    refine lv_iload hx hb dX11_picked_88 (lv_at hl 2 rfl) ?_
    refine va_iald hx hb hE.1 hP 7 0 rfl rfl (by rw [vp_in_iff]; first | omega | (subst_vars; omega)) dX11_picked_90 ?_
    refine lv_topi (fun z_4 ez_4 => ?_)
    refine lv_icmp_le (tgt := 97) hx hb dX11_picked_91 (by decide +kernel) (fun c_5 => ?_) (fun c_5 => ?_)
    · rw [fa_le] at c_5
      refine lv_aload hx hb dX11_picked_97 (lv_at hl 0 rfl) ?_
      refine va_gets (v := .ref (ad 9)) hx hb (hV.1.1.1 9 (by decide +kernel)).1 hS hown (hts (.fieldLink RX11 123 "ClauseBook$Kind" "THEN" "LClauseBook$Kind;") (List.mem_of_getElem? (i := 9) rfl)) (fun _ h9 => h9) dX11_picked_99 ?_
      refine lv_acmp_eq (rx := some (ad 6)) (ry := some (ad 9)) (tgt := 119) hx hb dX11_picked_102 (by decide +kernel) (fun c9 => absurd c9 (fun h => absurd (hV.1.1.2 6 9 (by decide +kernel) (by decide +kernel) (Option.some.inj h)) (by decide +kernel))) (fun _ => ?_)
      refine lv_iload_n hx hb dX11_picked_105 rfl (lv_at hl 5 rfl) ?_
      refine lv_aload_n hx hb dX11_picked_106 rfl (lv_at hl 3 rfl) ?_
      refine va_get (D := D) (ci := 8) (v := .ref cl) (C := RX11) (T := TX11) (N := 6) hx hb hts in_X11_picked_X11 hown hE.1 hP 0 rfl rfl 1 (by decide +kernel) (hts (.fieldLink RX11 30 "ClauseBook$Worth" "clauses" "LClauseBook$Clauses;") (List.mem_of_getElem? (i := 1) rfl)) (fun _ h9 => h9) rfl dX11_picked_107 ?_
      refine va_get (D := D) (ci := 1) (v := .ref c5) (C := RX2) (T := TX2) (N := 8) hx hb hts in_X11_picked_X2 hown hE.1 hP 2 rfl rfl 5 (by decide +kernel) (hts (.fieldLink RX11 45 "ClauseBook$Clauses" "end" "[I") (List.mem_of_getElem? (i := 8) rfl)) (fun _ h9 => h9) rfl dX11_picked_110 ?_
      refine lv_iload hx hb dX11_picked_113 (lv_at hl 1 rfl) ?_
      refine va_iald hx hb hE.1 hP 7 0 rfl rfl (by rw [vp_in_iff]; first | omega | (subst_vars; omega)) dX11_picked_115 ?_
      refine lv_topi (fun z_6 ez_6 => ?_)
      refine lv_icmp_le (tgt := 122) hx hb dX11_picked_116 (by decide +kernel) (fun c_7 => ?_) (fun c_7 => ?_)
      · rw [fa_le] at c_7
        refine lv_aload_n hx hb dX11_picked_122 rfl (lv_at hl 3 rfl) ?_
        refine lv_iload hx hb dX11_picked_123 (lv_at hl 2 rfl) ?_
        refine lv_iload_n hx hb dX11_picked_125 rfl (lv_at hl 5 rfl) ?_
        refine lv_iload_n hx hb dX11_picked_126 rfl (lv_at hl 6 rfl) ?_
        have hFc := va_free (wc := [(h0, .inr (8, [.ref la, .ref cl, .ref p0, .ref p1, .ref p4, .int n])), (la, .inr (5, [.int (l9 0), .int (l9 1), .int (l9 2), .int (l9 3), .int (l9 4), .int (l9 5), .int (l9 6)])), (cl, .inr (1, [.int n0, .ref c1, .ref c2, .ref c3, .ref c4, .ref c5, .ref c6, .ref c7])), (c1, .inl (T 0, 24, .inl f1)), (c2, .inl (T 0, 24, .inl f2)), (c3, .inl (T 0, 24, .inl f3)), (c4, .inl (T 0, 24, .inl f4)), (c5, .inl (T 0, 24, .inl f5)), (p0, .inl (T 1, 676, .inr (.inl g0))), (p1, .inl (T 1, 676, .inr (.inl g1))), (p4, .inl (T 0, 672, .inl g4))]) hD hS hA [0, 1, 2, 3, 4, 5, 6, 7, 8, 9, 10] rfl
        refine va_calli (va_runV (As := [.int z_1, .int x2, .int x3]) (rest := []) ⟨hx, hb, hml, hown, hts⟩ (hrec _ h0 la cl p0 p1 p4 n l9 n0 c1 c2 c3 c4 c5 c6 c7 f1 f2 f3 f4 f5 g0 g1 g4 z_1 x2 x3 (by omega) (by omega) (by omega) hok (by omega) hmm hlq (by omega)) (cwV 3 hts gX11_picked_X11_settle rfl rfl rfl hv_X11_settle ⟨(show _ ≤ (2 * d + 7 : Nat) from by (try dsimp only); omega), (show _ ≤ (64 * d + 280 : Nat) from by (try dsimp only); omega)⟩) (pWk_V (q := (RX11, TX11, 6)) (ci := 8) (q0 := 0) hP hE hD hV hS hFc rfl rfl [0, 1, 2, 3, 4, 5, 6, 7, 8, 9, 10] (by decide +kernel) rfl rfl) rfl rfl hl.1 rfl (lv_room (Nat.le_of_ble_eq_true rfl)) dX11_picked_127 ⟨Nat.le_of_ble_eq_true rfl, Nat.le_of_ble_eq_true rfl⟩) hS (fun q _ h => hFc q h) hFc (fun r_8 u_9 t H1 locs ht hvm hr_8 hB hz1 hk1 hS => ?_)
        obtain ⟨f_10, f_11, f_12⟩ := u_9
        obtain ⟨hqr_8, hsl_r_8, hfo_r_8, hstr_8⟩ := hr_8
        have hqr_8 : 0 ≤ r_8.toInt ∧ r_8.toInt < 672 := hqr_8
        have hsl_r_8 : r_8.toNatClampNeg = slN z_1 x2 x3 := hsl_r_8
        have hfo_r_8 : f_12 (slN z_1 x2 x3) = n := hfo_r_8
        have hsr_8 : stW (VALW l9 f1 f2 f3 f4 f5) n0 n (rgW z_1 x2) g0 g1 g4 f_10 f_11 f_12 := hstr_8
        have hst : stW (VALW l9 f1 f2 f3 f4 f5) n0 n (rgP x1) g0 g1 g4 f_10 f_11 f_12 := hst.tr hsr_8 (fun j9 h9 => rgp_c (by omega) h9)
        have hmm : memW (VALW l9 f1 f2 f3 f4 f5) n0 n f_10 f_11 f_12 := hst.1
        have hv_r_8 : (f_10 (r_8.toNatClampNeg), f_11 (r_8.toNatClampNeg)) = (VALW l9 f1 f2 f3 f4 f5) z_1 x2 x3 := hst.val (by omega) (by omega) (by first | omega | (rw [ti_0]; omega)) hsl_r_8 hfo_r_8
        have hb_r_8 : 0 ≤ (f_11 (r_8.toNatClampNeg)).toInt := val_nn (VAL_low hlq.1 hlq.2 31 _ _ _) hv_r_8
        obtain ⟨hP1, hD1⟩ := hB
        rw [ht] at hP1
        obtain ⟨hP, hD⟩ := va_repl [(h0, .inr (8, [.ref la, .ref cl, .ref p0, .ref p1, .ref p4, .int n])), (la, .inr (5, [.int (l9 0), .int (l9 1), .int (l9 2), .int (l9 3), .int (l9 4), .int (l9 5), .int (l9 6)])), (cl, .inr (1, [.int n0, .ref c1, .ref c2, .ref c3, .ref c4, .ref c5, .ref c6, .ref c7])), (c1, .inl (T 0, 24, .inl f1)), (c2, .inl (T 0, 24, .inl f2)), (c3, .inl (T 0, 24, .inl f3)), (c4, .inl (T 0, 24, .inl f4)), (c5, .inl (T 0, 24, .inl f5)), (p0, .inl (T 1, 676, .inr (.inl f_10))), (p1, .inl (T 1, 676, .inr (.inl f_11))), (p4, .inl (T 0, 672, .inl f_12))] hP hD [0, 1, 2, 3, 4, 5, 6, 7, 8, 9, 10] [0, 1, 2, 3, 4, 5, 6, 7, 8, 9, 10] rfl (by decide +kernel) rfl rfl rfl hk1 hP1
        clear hP1 hD1 hFc
        generalize H1 = H at hP hS ⊢
        refine lv_istore (lv' := [(7, .int r_8), (6, .ref (ad 6)), (5, .int z_2), (4, .int z_1), (0, .ref h0), (1, .int x1), (2, .int x2), (3, .int x3)]) hx hb dX11_picked_130 hl (by decide +kernel) rfl (fun ls hl => ?_)
        refine lv_aload_n hx hb dX11_picked_132 rfl (lv_at hl 4 rfl) ?_
        refine lv_iload hx hb dX11_picked_133 (lv_at hl 2 rfl) ?_
        refine lv_iload_n hx hb dX11_picked_135 rfl (lv_at hl 6 rfl) ?_
        refine lv_iload_n hx hb dX11_picked_136 rfl (lv_at hl 7 rfl) ?_
        have hFc := va_free (wc := [(h0, .inr (8, [.ref la, .ref cl, .ref p0, .ref p1, .ref p4, .int n])), (la, .inr (5, [.int (l9 0), .int (l9 1), .int (l9 2), .int (l9 3), .int (l9 4), .int (l9 5), .int (l9 6)])), (cl, .inr (1, [.int n0, .ref c1, .ref c2, .ref c3, .ref c4, .ref c5, .ref c6, .ref c7])), (c1, .inl (T 0, 24, .inl f1)), (c2, .inl (T 0, 24, .inl f2)), (c3, .inl (T 0, 24, .inl f3)), (c4, .inl (T 0, 24, .inl f4)), (c5, .inl (T 0, 24, .inl f5)), (p0, .inl (T 1, 676, .inr (.inl f_10))), (p1, .inl (T 1, 676, .inr (.inl f_11))), (p4, .inl (T 0, 672, .inl f_12))]) hD hS hA [0, 1, 2, 3, 4, 5, 6, 7, 8, 9, 10] rfl
        refine va_calli (va_runV (As := [.int z_2, .int x2, .int x3]) (rest := []) ⟨hx, hb, hml, hown, hts⟩ (hrec _ h0 la cl p0 p1 p4 n l9 n0 c1 c2 c3 c4 c5 c6 c7 f1 f2 f3 f4 f5 f_10 f_11 f_12 z_2 x2 x3 (by omega) (by omega) (by omega) hok (by omega) hmm hlq (by omega)) (cwV 3 hts gX11_picked_X11_settle rfl rfl rfl hv_X11_settle ⟨(show _ ≤ (2 * d + 7 : Nat) from by (try dsimp only); omega), (show _ ≤ (64 * d + 280 : Nat) from by (try dsimp only); omega)⟩) (pWk_V (q := (RX11, TX11, 6)) (ci := 8) (q0 := 0) hP hE hD hV hS hFc rfl rfl [0, 1, 2, 3, 4, 5, 6, 7, 8, 9, 10] (by decide +kernel) rfl rfl) rfl rfl hl.1 rfl (lv_room (Nat.le_of_ble_eq_true rfl)) dX11_picked_137 ⟨Nat.le_of_ble_eq_true rfl, Nat.le_of_ble_eq_true rfl⟩) hS (fun q _ h => hFc q h) hFc (fun r_13 u_14 t H1 locs ht hvm hr_13 hB hz1 hk1 hS => ?_)
        obtain ⟨f_15, f_16, f_17⟩ := u_14
        obtain ⟨hqr_13, hsl_r_13, hfo_r_13, hstr_13⟩ := hr_13
        have hqr_13 : 0 ≤ r_13.toInt ∧ r_13.toInt < 672 := hqr_13
        have hsl_r_13 : r_13.toNatClampNeg = slN z_2 x2 x3 := hsl_r_13
        have hfo_r_13 : f_17 (slN z_2 x2 x3) = n := hfo_r_13
        have hsr_13 : stW (VALW l9 f1 f2 f3 f4 f5) n0 n (rgW z_2 x2) f_10 f_11 f_12 f_15 f_16 f_17 := hstr_13
        have hst : stW (VALW l9 f1 f2 f3 f4 f5) n0 n (rgP x1) g0 g1 g4 f_15 f_16 f_17 := hst.tr hsr_13 (fun j9 h9 => rgp_c (by omega) h9)
        have hmm : memW (VALW l9 f1 f2 f3 f4 f5) n0 n f_15 f_16 f_17 := hst.1
        have hfo_r_8 : f_17 (slN z_1 x2 x3) = n := hsr_13.2.1 _ (slN_lt (by omega) (by omega) (by omega)) hfo_r_8
        have hv_r_8 : (f_15 (r_8.toNatClampNeg), f_16 (r_8.toNatClampNeg)) = (VALW l9 f1 f2 f3 f4 f5) z_1 x2 x3 := hst.val (by omega) (by omega) (by omega) hsl_r_8 hfo_r_8
        have hb_r_8 : 0 ≤ (f_16 (r_8.toNatClampNeg)).toInt := val_nn (VAL_low hlq.1 hlq.2 31 _ _ _) hv_r_8
        have hv_r_13 : (f_15 (r_13.toNatClampNeg), f_16 (r_13.toNatClampNeg)) = (VALW l9 f1 f2 f3 f4 f5) z_2 x2 x3 := hst.val (by omega) (by omega) (by first | omega | (rw [ti_0]; omega)) hsl_r_13 hfo_r_13
        have hb_r_13 : 0 ≤ (f_16 (r_13.toNatClampNeg)).toInt := val_nn (VAL_low hlq.1 hlq.2 31 _ _ _) hv_r_13
        obtain ⟨hP1, hD1⟩ := hB
        rw [ht] at hP1
        obtain ⟨hP, hD⟩ := va_repl [(h0, .inr (8, [.ref la, .ref cl, .ref p0, .ref p1, .ref p4, .int n])), (la, .inr (5, [.int (l9 0), .int (l9 1), .int (l9 2), .int (l9 3), .int (l9 4), .int (l9 5), .int (l9 6)])), (cl, .inr (1, [.int n0, .ref c1, .ref c2, .ref c3, .ref c4, .ref c5, .ref c6, .ref c7])), (c1, .inl (T 0, 24, .inl f1)), (c2, .inl (T 0, 24, .inl f2)), (c3, .inl (T 0, 24, .inl f3)), (c4, .inl (T 0, 24, .inl f4)), (c5, .inl (T 0, 24, .inl f5)), (p0, .inl (T 1, 676, .inr (.inl f_15))), (p1, .inl (T 1, 676, .inr (.inl f_16))), (p4, .inl (T 0, 672, .inl f_17))] hP hD [0, 1, 2, 3, 4, 5, 6, 7, 8, 9, 10] [0, 1, 2, 3, 4, 5, 6, 7, 8, 9, 10] rfl (by decide +kernel) rfl rfl rfl hk1 hP1
        clear hP1 hD1 hFc
        generalize H1 = H at hP hS ⊢
        refine lv_istore (lv' := [(8, .int r_13), (7, .int r_8), (6, .ref (ad 6)), (5, .int z_2), (4, .int z_1), (0, .ref h0), (1, .int x1), (2, .int x2), (3, .int x3)]) hx hb dX11_picked_140 hl (by decide +kernel) rfl (fun ls hl => ?_)
        refine lv_aload_n hx hb dX11_picked_142 rfl (lv_at hl 5 rfl) ?_
        refine lv_iload hx hb dX11_picked_143 (lv_at hl 1 rfl) ?_
        refine vp_callSi (W.runV (As := [.int r_8]) (rest := []) ⟨hx, hb, hml, hown, hts⟩ (c_X11_isMuch l D T h0 [.ref la, .ref cl, .ref p0, .ref p1, .ref p4, .int n] p1 f_16 r_8 rfl (by first | decide | omega)) (cwV 1 hts gX11_picked_X11_isMuch rfl rfl rfl hv_X11_isMuch ⟨(show _ ≤ (2 * d + 7 : Nat) from by (try dsimp only); omega), (show _ ≤ (64 * d + 280 : Nat) from by (try dsimp only); omega)⟩) (pR_V (q := (RX11, TX11, 6)) (ci := 8) (q0 := 0) hP hE rfl rfl [0, 9] rfl) rfl rfl hl.1 rfl (lv_room (Nat.le_of_ble_eq_true rfl)) dX11_picked_145 ⟨Nat.le_of_ble_eq_true rfl, Nat.le_of_ble_eq_true rfl⟩) (fun r_18 hr_18 => ?_)
        rcases bool_post hr_18 with ⟨c_19, rfl⟩ | ⟨c_19, rfl⟩
        · refine lv_if_ne (tgt := 160) hx hb dX11_picked_148 (by decide +kernel) (fun _ => ?_) (fun c9 => absurd c9 (by decide +kernel))
          refine lv_bipush (v := (-5)) hx hb dX11_picked_160 (by decide +kernel) ?_
          exact W.iret hx hb hr (fun t ht hW => ⟨⟨_, (f_15, f_16, f_17), rfl, ⟨(Or.inl (by decide +kernel)), (show (-5 : Int32) = pickW l9 f1 f2 f3 f4 f5 (VALW l9 f1 f2 f3 f4 f5) x1 x2 x3 from (pk_m (l := l9) (fk := f1) (fn := f2) (fc := f3) (fd := f4) (fe := f5) (V := (VALW l9 f1 f2 f3 f4 f5)) (x := x1) (t := x2) (k := x3) (by omega) (by omega) (show ¬ (f5 ((f3 (x1.toNatClampNeg)).toNatClampNeg)).toInt < x2.toInt from by rw [← ez_1, ← ez_4]; omega) (fun h9 => by rcases h9 with h9 | h9 <;> first | omega | exact absurd h9 (show ¬ (f5 ((f4 (x1.toNatClampNeg)).toNatClampNeg)).toInt < x2.toInt from by rw [← ez_2, ← ez_6]; omega)) (by rw [(show (VALW l9 f1 f2 f3 f4 f5) (f3 (x1.toNatClampNeg)) x2 x3 = (f_15 (r_8.toNatClampNeg), f_16 (r_8.toNatClampNeg)) from by rw [← ez_1]; exact hv_r_8.symm), (show (VALW l9 f1 f2 f3 f4 f5) (f4 (x1.toNatClampNeg)) x2 x3 = (f_15 (r_13.toNatClampNeg), f_16 (r_13.toNatClampNeg)) from by rw [← ez_2]; exact hv_r_13.symm)]; first | exact Or.inl (show (f_16 (r_8.toNatClampNeg)).toInt = 0 from by omega) | exact Or.inr (show (f_16 (r_13.toNatClampNeg)).toInt = 0 from by omega))).symm), hst⟩, by rw [ht]; exact hP.sub [0, 1, 2, 3, 4, 5, 6, 7, 8, 9, 10] rfl, hD.sub [0, 1, 2, 3, 4, 5, 6, 7, 8, 9, 10] (by decide +kernel) rfl⟩, hS.F ht⟩) hS.2.2 dX11_picked_162
        · refine lv_if_ne (tgt := 160) hx hb dX11_picked_148 (by decide +kernel) (fun c9 => absurd c9 (by decide +kernel)) (fun _ => ?_)
          refine lv_aload_n hx hb dX11_picked_151 rfl (lv_at hl 5 rfl) ?_
          refine lv_iload hx hb dX11_picked_152 (lv_at hl 0 rfl) ?_
          refine vp_callSi (W.runV (As := [.int r_13]) (rest := []) ⟨hx, hb, hml, hown, hts⟩ (c_X11_isMuch l D T h0 [.ref la, .ref cl, .ref p0, .ref p1, .ref p4, .int n] p1 f_16 r_13 rfl (by first | decide | omega)) (cwV 1 hts gX11_picked_X11_isMuch rfl rfl rfl hv_X11_isMuch ⟨(show _ ≤ (2 * d + 7 : Nat) from by (try dsimp only); omega), (show _ ≤ (64 * d + 280 : Nat) from by (try dsimp only); omega)⟩) (pR_V (q := (RX11, TX11, 6)) (ci := 8) (q0 := 0) hP hE rfl rfl [0, 9] rfl) rfl rfl hl.1 rfl (lv_room (Nat.le_of_ble_eq_true rfl)) dX11_picked_154 ⟨Nat.le_of_ble_eq_true rfl, Nat.le_of_ble_eq_true rfl⟩) (fun r_20 hr_20 => ?_)
          rcases bool_post hr_20 with ⟨c_21, rfl⟩ | ⟨c_21, rfl⟩
          · refine lv_if_eq (tgt := 163) hx hb dX11_picked_157 (by decide +kernel) (fun c9 => absurd c9 (by decide +kernel)) (fun _ => ?_)
            refine lv_bipush (v := (-5)) hx hb dX11_picked_160 (by decide +kernel) ?_
            exact W.iret hx hb hr (fun t ht hW => ⟨⟨_, (f_15, f_16, f_17), rfl, ⟨(Or.inl (by decide +kernel)), (show (-5 : Int32) = pickW l9 f1 f2 f3 f4 f5 (VALW l9 f1 f2 f3 f4 f5) x1 x2 x3 from (pk_m (l := l9) (fk := f1) (fn := f2) (fc := f3) (fd := f4) (fe := f5) (V := (VALW l9 f1 f2 f3 f4 f5)) (x := x1) (t := x2) (k := x3) (by omega) (by omega) (show ¬ (f5 ((f3 (x1.toNatClampNeg)).toNatClampNeg)).toInt < x2.toInt from by rw [← ez_1, ← ez_4]; omega) (fun h9 => by rcases h9 with h9 | h9 <;> first | omega | exact absurd h9 (show ¬ (f5 ((f4 (x1.toNatClampNeg)).toNatClampNeg)).toInt < x2.toInt from by rw [← ez_2, ← ez_6]; omega)) (by rw [(show (VALW l9 f1 f2 f3 f4 f5) (f3 (x1.toNatClampNeg)) x2 x3 = (f_15 (r_8.toNatClampNeg), f_16 (r_8.toNatClampNeg)) from by rw [← ez_1]; exact hv_r_8.symm), (show (VALW l9 f1 f2 f3 f4 f5) (f4 (x1.toNatClampNeg)) x2 x3 = (f_15 (r_13.toNatClampNeg), f_16 (r_13.toNatClampNeg)) from by rw [← ez_2]; exact hv_r_13.symm)]; first | exact Or.inl (show (f_16 (r_8.toNatClampNeg)).toInt = 0 from by omega) | exact Or.inr (show (f_16 (r_13.toNatClampNeg)).toInt = 0 from by omega))).symm), hst⟩, by rw [ht]; exact hP.sub [0, 1, 2, 3, 4, 5, 6, 7, 8, 9, 10] rfl, hD.sub [0, 1, 2, 3, 4, 5, 6, 7, 8, 9, 10] (by decide +kernel) rfl⟩, hS.F ht⟩) hS.2.2 dX11_picked_162
          · refine lv_if_eq (tgt := 163) hx hb dX11_picked_157 (by decide +kernel) (fun _ => ?_) (fun c9 => absurd c9 (by decide +kernel))
            refine lv_aload_n hx hb dX11_picked_163 rfl (lv_at hl 5 rfl) ?_
            refine lv_iload hx hb dX11_picked_164 (lv_at hl 0 rfl) ?_
            refine lv_iload hx hb dX11_picked_166 (lv_at hl 1 rfl) ?_
            refine vp_callSi (W.runV (As := [.int r_13, .int r_8]) (rest := []) ⟨hx, hb, hml, hown, hts⟩ (c_X11_order l D T h0 [.ref la, .ref cl, .ref p0, .ref p1, .ref p4, .int n] p1 f_16 p0 f_15 r_13 r_8 rfl rfl (by first | decide | omega) (by first | decide | omega) (by first | omega | assumption | decide) (by first | omega | assumption | decide)) (cwV 2 hts gX11_picked_X11_order rfl rfl rfl hv_X11_order ⟨(show _ ≤ (2 * d + 7 : Nat) from by (try dsimp only); omega), (show _ ≤ (64 * d + 280 : Nat) from by (try dsimp only); omega)⟩) (pR_V (q := (RX11, TX11, 6)) (ci := 8) (q0 := 0) hP hE rfl rfl [0, 9, 8] rfl) rfl rfl hl.1 rfl (lv_room (Nat.le_of_ble_eq_true rfl)) dX11_picked_168 ⟨Nat.le_of_ble_eq_true rfl, Nat.le_of_ble_eq_true rfl⟩) (fun r_22 hr_22 => ?_)
            refine lv_istore (lv' := [(9, .int r_22), (8, .int r_13), (7, .int r_8), (6, .ref (ad 6)), (5, .int z_2), (4, .int z_1), (0, .ref h0), (1, .int x1), (2, .int x2), (3, .int x3)]) hx hb dX11_picked_171 hl (by decide +kernel) rfl (fun ls hl => ?_)
            refine lv_aload hx hb dX11_picked_173 (lv_at hl 3 rfl) ?_
            refine va_gets (v := .ref (ad 6)) hx hb (hV.1.1.1 6 (by decide +kernel)).1 hS hown (hts (.fieldLink RX11 126 "ClauseBook$Kind" "BETTER" "LClauseBook$Kind;") (List.mem_of_getElem? (i := 10) rfl)) (fun _ h9 => h9) dX11_picked_175 ?_
            refine lv_acmp_ne (rx := some (ad 6)) (ry := some (ad 6)) (tgt := 189) hx hb dX11_picked_178 (by decide +kernel) (fun c9 => absurd c9 (not_not_intro rfl)) (fun _ => ?_)
            refine lv_iload hx hb dX11_picked_181 (lv_at hl 0 rfl) ?_
            refine lv_if_le (tgt := 199) hx hb dX11_picked_183 (by decide +kernel) (fun c_23 => ?_) (fun c_23 => ?_)
            · rw [fa_le] at c_23
              try rw [ti_0] at c_23
              refine lv_iload hx hb dX11_picked_199 (lv_at hl 5 rfl) ?_
              exact W.iret hx hb hr (fun t ht hW => ⟨⟨_, (f_15, f_16, f_17), rfl, ⟨(Or.inr (by omega)), (show z_1 = pickW l9 f1 f2 f3 f4 f5 (VALW l9 f1 f2 f3 f4 f5) x1 x2 x3 from (ez_1.trans (pk_n (l := l9) (fk := f1) (fn := f2) (fc := f3) (fd := f4) (fe := f5) (V := (VALW l9 f1 f2 f3 f4 f5)) (x := x1) (t := x2) (k := x3) (by omega) (by omega) (show ¬ (f5 ((f3 (x1.toNatClampNeg)).toNatClampNeg)).toInt < x2.toInt from by rw [← ez_1, ← ez_4]; omega) (fun h9 => by rcases h9 with h9 | h9 <;> first | omega | exact absurd h9 (show ¬ (f5 ((f4 (x1.toNatClampNeg)).toNatClampNeg)).toInt < x2.toInt from by rw [← ez_2, ← ez_6]; omega)) (by rw [(show (VALW l9 f1 f2 f3 f4 f5) (f3 (x1.toNatClampNeg)) x2 x3 = (f_15 (r_8.toNatClampNeg), f_16 (r_8.toNatClampNeg)) from by rw [← ez_1]; exact hv_r_8.symm), (show (VALW l9 f1 f2 f3 f4 f5) (f4 (x1.toNatClampNeg)) x2 x3 = (f_15 (r_13.toNatClampNeg), f_16 (r_13.toNatClampNeg)) from by rw [← ez_2]; exact hv_r_13.symm)]; intro h9; rcases h9 with h9 | h9 <;> first | exact absurd (show (f_16 (r_8.toNatClampNeg)).toInt = 0 from h9) (by omega) | exact absurd (show (f_16 (r_13.toNatClampNeg)).toInt = 0 from h9) (by omega)) (by rw [(show (VALW l9 f1 f2 f3 f4 f5) (f3 (x1.toNatClampNeg)) x2 x3 = (f_15 (r_8.toNatClampNeg), f_16 (r_8.toNatClampNeg)) from by rw [← ez_1]; exact hv_r_8.symm), (show (VALW l9 f1 f2 f3 f4 f5) (f4 (x1.toNatClampNeg)) x2 x3 = (f_15 (r_13.toNatClampNeg), f_16 (r_13.toNatClampNeg)) from by rw [← ez_2]; exact hv_r_13.symm)]; intro h9; rcases h9 with ⟨h8, h9⟩ | ⟨h8, h9⟩ <;> first | omega | (unfold cmpP at h9; rw [← hr_22] at h9; omega))).symm)), hst⟩, by rw [ht]; exact hP.sub [0, 1, 2, 3, 4, 5, 6, 7, 8, 9, 10] rfl, hD.sub [0, 1, 2, 3, 4, 5, 6, 7, 8, 9, 10] (by decide +kernel) rfl⟩, hS.F ht⟩) hS.2.2 dX11_picked_201
            · rw [fa_le] at c_23
              try rw [ti_0] at c_23
              refine lv_goto (tgt := 194) hx hb dX11_picked_186 (by decide +kernel) ?_
              refine lv_iload hx hb dX11_picked_194 (lv_at hl 4 rfl) ?_
              refine lv_goto (tgt := 201) hx hb dX11_picked_196 (by decide +kernel) ?_
              exact W.iret hx hb hr (fun t ht hW => ⟨⟨_, (f_15, f_16, f_17), rfl, ⟨(Or.inr (by omega)), (show z_2 = pickW l9 f1 f2 f3 f4 f5 (VALW l9 f1 f2 f3 f4 f5) x1 x2 x3 from (ez_2.trans (pk_y (l := l9) (fk := f1) (fn := f2) (fc := f3) (fd := f4) (fe := f5) (V := (VALW l9 f1 f2 f3 f4 f5)) (x := x1) (t := x2) (k := x3) (by omega) (by omega) (show ¬ (f5 ((f3 (x1.toNatClampNeg)).toNatClampNeg)).toInt < x2.toInt from by rw [← ez_1, ← ez_4]; omega) (fun h9 => by rcases h9 with h9 | h9 <;> first | omega | exact absurd h9 (show ¬ (f5 ((f4 (x1.toNatClampNeg)).toNatClampNeg)).toInt < x2.toInt from by rw [← ez_2, ← ez_6]; omega)) (by rw [(show (VALW l9 f1 f2 f3 f4 f5) (f3 (x1.toNatClampNeg)) x2 x3 = (f_15 (r_8.toNatClampNeg), f_16 (r_8.toNatClampNeg)) from by rw [← ez_1]; exact hv_r_8.symm), (show (VALW l9 f1 f2 f3 f4 f5) (f4 (x1.toNatClampNeg)) x2 x3 = (f_15 (r_13.toNatClampNeg), f_16 (r_13.toNatClampNeg)) from by rw [← ez_2]; exact hv_r_13.symm)]; intro h9; rcases h9 with h9 | h9 <;> first | exact absurd (show (f_16 (r_8.toNatClampNeg)).toInt = 0 from h9) (by omega) | exact absurd (show (f_16 (r_13.toNatClampNeg)).toInt = 0 from h9) (by omega)) (by rw [(show (VALW l9 f1 f2 f3 f4 f5) (f3 (x1.toNatClampNeg)) x2 x3 = (f_15 (r_8.toNatClampNeg), f_16 (r_8.toNatClampNeg)) from by rw [← ez_1]; exact hv_r_8.symm), (show (VALW l9 f1 f2 f3 f4 f5) (f4 (x1.toNatClampNeg)) x2 x3 = (f_15 (r_13.toNatClampNeg), f_16 (r_13.toNatClampNeg)) from by rw [← ez_2]; exact hv_r_13.symm)]; first | exact Or.inl ⟨by omega, (by unfold cmpP; rw [← hr_22]; omega)⟩ | exact Or.inr ⟨by omega, (by unfold cmpP; rw [← hr_22]; omega)⟩)).symm)), hst⟩, by rw [ht]; exact hP.sub [0, 1, 2, 3, 4, 5, 6, 7, 8, 9, 10] rfl, hD.sub [0, 1, 2, 3, 4, 5, 6, 7, 8, 9, 10] (by decide +kernel) rfl⟩, hS.F ht⟩) hS.2.2 dX11_picked_201
      · rw [fa_le] at c_7
        refine lv_iload hx hb dX11_picked_119 (lv_at hl 2 rfl) ?_
        exact W.iret hx hb hr (fun t ht hW => ⟨⟨_, (g0, g1, g4), rfl, ⟨(Or.inr (by omega)), (show z_1 = pickW l9 f1 f2 f3 f4 f5 (VALW l9 f1 f2 f3 f4 f5) x1 x2 x3 from (ez_1.trans (pk_d (l := l9) (fk := f1) (fn := f2) (fc := f3) (fd := f4) (fe := f5) (V := (VALW l9 f1 f2 f3 f4 f5)) (x := x1) (t := x2) (k := x3) (by omega) (by omega) (show ¬ (f5 ((f3 (x1.toNatClampNeg)).toNatClampNeg)).toInt < x2.toInt from by rw [← ez_1, ← ez_4]; omega) (by first | exact Or.inl (by omega) | exact Or.inr (show (f5 ((f4 (x1.toNatClampNeg)).toNatClampNeg)).toInt < x2.toInt from by rw [← ez_2, ← ez_6]; omega))).symm)), hst⟩, by rw [ht]; exact hP.sub [0, 1, 2, 3, 4, 5, 6, 7, 8, 9, 10] rfl, hD.sub [0, 1, 2, 3, 4, 5, 6, 7, 8, 9, 10] (by decide +kernel) rfl⟩, hS.F ht⟩) hS.2.2 dX11_picked_121
    · rw [fa_le] at c_5
      refine lv_iload hx hb dX11_picked_94 (lv_at hl 1 rfl) ?_
      exact W.iret hx hb hr (fun t ht hW => ⟨⟨_, (g0, g1, g4), rfl, ⟨(Or.inr (by omega)), (show z_2 = pickW l9 f1 f2 f3 f4 f5 (VALW l9 f1 f2 f3 f4 f5) x1 x2 x3 from (ez_2.trans (pk_c (l := l9) (fk := f1) (fn := f2) (fc := f3) (fd := f4) (fe := f5) (V := (VALW l9 f1 f2 f3 f4 f5)) (x := x1) (t := x2) (k := x3) (by omega) (by omega) (show (f5 ((f3 (x1.toNatClampNeg)).toNatClampNeg)).toInt < x2.toInt from by rw [← ez_1, ← ez_4]; omega)).symm)), hst⟩, by rw [ht]; exact hP.sub [0, 1, 2, 3, 4, 5, 6, 7, 8, 9, 10] rfl, hD.sub [0, 1, 2, 3, 4, 5, 6, 7, 8, 9, 10] (by decide +kernel) rfl⟩, hS.F ht⟩) hS.2.2 dX11_picked_96
  · refine W.eq (g2 := F0 m 30 ls [.ref (ad 7)]) (by rw [hk9]) ?_
    have hc9 : 0 ≤ z_1.toInt ∧ z_1.toInt < x1.toInt := by
      have h := (hok _ (in24 (x := x1) (by omega)).1).2.1 (by rw [hk9]; decide)
      have h2 := (in24 (x := x1) (by omega)).2
      rw [ez_1]
      omega
    have hd9 : 0 ≤ (f4 (x1.toNatClampNeg)).toInt ∧ (f4 (x1.toNatClampNeg)).toInt < x1.toInt := by
      have h := (hok _ (in24 (x := x1) (by omega)).1).2.2.1 (by rw [hk9]; decide)
      have h2 := (in24 (x := x1) (by omega)).2
      omega
    have hd8 : 0 ≤ z_2.toInt ∧ z_2.toInt < x1.toInt := by rw [ez_2]; exact hd9
    refine lv_astore (lv' := [(6, .ref (ad 7)), (5, .int z_2), (4, .int z_1), (0, .ref h0), (1, .int x1), (2, .int x2), (3, .int x3)]) hx hb dX11_picked_30 hl (by decide +kernel) rfl (fun ls hl => ?_)
    refine lv_aload hx hb dX11_picked_32 (lv_at hl 0 rfl) ?_
    refine va_gets (v := .ref (ad 8)) hx hb (hV.1.1.1 8 (by decide +kernel)).1 hS hown (hts (.fieldLink RX11 117 "ClauseBook$Kind" "UNTIL" "LClauseBook$Kind;") (List.mem_of_getElem? (i := 4) rfl)) (fun _ h9 => h9) dX11_picked_34 ?_
    refine lv_acmp_ne (rx := some (ad 7)) (ry := some (ad 8)) (tgt := 43) hx hb dX11_picked_37 (by decide +kernel) (fun _ => ?_) (fun c9 => absurd c9 (fun h => absurd (hV.1.1.2 7 8 (by decide +kernel) (by decide +kernel) (Option.some.inj h)) (by decide +kernel)))
    refine lv_aload hx hb dX11_picked_43 (lv_at hl 0 rfl) ?_
    refine va_gets (v := .ref (ad 12)) hx hb (hV.1.1.1 12 (by decide +kernel)).1 hS hown (hts (.fieldLink RX11 120 "ClauseBook$Kind" "WHERE" "LClauseBook$Kind;") (List.mem_of_getElem? (i := 5) rfl)) (fun _ h9 => h9) dX11_picked_45 ?_
    refine lv_acmp_ne (rx := some (ad 7)) (ry := some (ad 12)) (tgt := 80) hx hb dX11_picked_48 (by decide +kernel) (fun _ => ?_) (fun c9 => absurd c9 (fun h => absurd (hV.1.1.2 7 12 (by decide +kernel) (by decide +kernel) (Option.some.inj h)) (by decide +kernel)))
    refine lv_iload_n hx hb dX11_picked_80 rfl (lv_at hl 5 rfl) ?_
    refine lv_aload_n hx hb dX11_picked_81 rfl (lv_at hl 3 rfl) ?_
    refine va_get (D := D) (ci := 8) (v := .ref cl) (C := RX11) (T := TX11) (N := 6) hx hb hts in_X11_picked_X11 hown hE.1 hP 0 rfl rfl 1 (by decide +kernel) (hts (.fieldLink RX11 30 "ClauseBook$Worth" "clauses" "LClauseBook$Clauses;") (List.mem_of_getElem? (i := 1) rfl)) (fun _ h9 => h9) rfl dX11_picked_82 ?_
    refine va_get (D := D) (ci := 1) (v := .ref c5) (C := RX2) (T := TX2) (N := 8) hx hb hts in_X11_picked_X2 hown hE.1 hP 2 rfl rfl 5 (by decide +kernel) (hts (.fieldLink RX11 45 "ClauseBook$Clauses" "end" "[I") (List.mem_of_getElem? (i := 8) rfl)) (fun _ h9 => h9) rfl dX11_picked_85 ?_
    refine lv_iload hx hb dX11_picked_88 (lv_at hl 2 rfl) ?_
    refine va_iald hx hb hE.1 hP 7 0 rfl rfl (by rw [vp_in_iff]; first | omega | (subst_vars; omega)) dX11_picked_90 ?_
    refine lv_topi (fun z_24 ez_24 => ?_)
    refine lv_icmp_le (tgt := 97) hx hb dX11_picked_91 (by decide +kernel) (fun c_25 => ?_) (fun c_25 => ?_)
    · rw [fa_le] at c_25
      refine lv_aload hx hb dX11_picked_97 (lv_at hl 0 rfl) ?_
      refine va_gets (v := .ref (ad 9)) hx hb (hV.1.1.1 9 (by decide +kernel)).1 hS hown (hts (.fieldLink RX11 123 "ClauseBook$Kind" "THEN" "LClauseBook$Kind;") (List.mem_of_getElem? (i := 9) rfl)) (fun _ h9 => h9) dX11_picked_99 ?_
      refine lv_acmp_eq (rx := some (ad 7)) (ry := some (ad 9)) (tgt := 119) hx hb dX11_picked_102 (by decide +kernel) (fun c9 => absurd c9 (fun h => absurd (hV.1.1.2 7 9 (by decide +kernel) (by decide +kernel) (Option.some.inj h)) (by decide +kernel))) (fun _ => ?_)
      refine lv_iload_n hx hb dX11_picked_105 rfl (lv_at hl 5 rfl) ?_
      refine lv_aload_n hx hb dX11_picked_106 rfl (lv_at hl 3 rfl) ?_
      refine va_get (D := D) (ci := 8) (v := .ref cl) (C := RX11) (T := TX11) (N := 6) hx hb hts in_X11_picked_X11 hown hE.1 hP 0 rfl rfl 1 (by decide +kernel) (hts (.fieldLink RX11 30 "ClauseBook$Worth" "clauses" "LClauseBook$Clauses;") (List.mem_of_getElem? (i := 1) rfl)) (fun _ h9 => h9) rfl dX11_picked_107 ?_
      refine va_get (D := D) (ci := 1) (v := .ref c5) (C := RX2) (T := TX2) (N := 8) hx hb hts in_X11_picked_X2 hown hE.1 hP 2 rfl rfl 5 (by decide +kernel) (hts (.fieldLink RX11 45 "ClauseBook$Clauses" "end" "[I") (List.mem_of_getElem? (i := 8) rfl)) (fun _ h9 => h9) rfl dX11_picked_110 ?_
      refine lv_iload hx hb dX11_picked_113 (lv_at hl 1 rfl) ?_
      refine va_iald hx hb hE.1 hP 7 0 rfl rfl (by rw [vp_in_iff]; first | omega | (subst_vars; omega)) dX11_picked_115 ?_
      refine lv_topi (fun z_26 ez_26 => ?_)
      refine lv_icmp_le (tgt := 122) hx hb dX11_picked_116 (by decide +kernel) (fun c_27 => ?_) (fun c_27 => ?_)
      · rw [fa_le] at c_27
        refine lv_aload_n hx hb dX11_picked_122 rfl (lv_at hl 3 rfl) ?_
        refine lv_iload hx hb dX11_picked_123 (lv_at hl 2 rfl) ?_
        refine lv_iload_n hx hb dX11_picked_125 rfl (lv_at hl 5 rfl) ?_
        refine lv_iload_n hx hb dX11_picked_126 rfl (lv_at hl 6 rfl) ?_
        have hFc := va_free (wc := [(h0, .inr (8, [.ref la, .ref cl, .ref p0, .ref p1, .ref p4, .int n])), (la, .inr (5, [.int (l9 0), .int (l9 1), .int (l9 2), .int (l9 3), .int (l9 4), .int (l9 5), .int (l9 6)])), (cl, .inr (1, [.int n0, .ref c1, .ref c2, .ref c3, .ref c4, .ref c5, .ref c6, .ref c7])), (c1, .inl (T 0, 24, .inl f1)), (c2, .inl (T 0, 24, .inl f2)), (c3, .inl (T 0, 24, .inl f3)), (c4, .inl (T 0, 24, .inl f4)), (c5, .inl (T 0, 24, .inl f5)), (p0, .inl (T 1, 676, .inr (.inl g0))), (p1, .inl (T 1, 676, .inr (.inl g1))), (p4, .inl (T 0, 672, .inl g4))]) hD hS hA [0, 1, 2, 3, 4, 5, 6, 7, 8, 9, 10] rfl
        refine va_calli (va_runV (As := [.int z_1, .int x2, .int x3]) (rest := []) ⟨hx, hb, hml, hown, hts⟩ (hrec _ h0 la cl p0 p1 p4 n l9 n0 c1 c2 c3 c4 c5 c6 c7 f1 f2 f3 f4 f5 g0 g1 g4 z_1 x2 x3 (by omega) (by omega) (by omega) hok (by omega) hmm hlq (by omega)) (cwV 3 hts gX11_picked_X11_settle rfl rfl rfl hv_X11_settle ⟨(show _ ≤ (2 * d + 7 : Nat) from by (try dsimp only); omega), (show _ ≤ (64 * d + 280 : Nat) from by (try dsimp only); omega)⟩) (pWk_V (q := (RX11, TX11, 6)) (ci := 8) (q0 := 0) hP hE hD hV hS hFc rfl rfl [0, 1, 2, 3, 4, 5, 6, 7, 8, 9, 10] (by decide +kernel) rfl rfl) rfl rfl hl.1 rfl (lv_room (Nat.le_of_ble_eq_true rfl)) dX11_picked_127 ⟨Nat.le_of_ble_eq_true rfl, Nat.le_of_ble_eq_true rfl⟩) hS (fun q _ h => hFc q h) hFc (fun r_28 u_29 t H1 locs ht hvm hr_28 hB hz1 hk1 hS => ?_)
        obtain ⟨f_30, f_31, f_32⟩ := u_29
        obtain ⟨hqr_28, hsl_r_28, hfo_r_28, hstr_28⟩ := hr_28
        have hqr_28 : 0 ≤ r_28.toInt ∧ r_28.toInt < 672 := hqr_28
        have hsl_r_28 : r_28.toNatClampNeg = slN z_1 x2 x3 := hsl_r_28
        have hfo_r_28 : f_32 (slN z_1 x2 x3) = n := hfo_r_28
        have hsr_28 : stW (VALW l9 f1 f2 f3 f4 f5) n0 n (rgW z_1 x2) g0 g1 g4 f_30 f_31 f_32 := hstr_28
        have hst : stW (VALW l9 f1 f2 f3 f4 f5) n0 n (rgP x1) g0 g1 g4 f_30 f_31 f_32 := hst.tr hsr_28 (fun j9 h9 => rgp_c (by omega) h9)
        have hmm : memW (VALW l9 f1 f2 f3 f4 f5) n0 n f_30 f_31 f_32 := hst.1
        have hv_r_28 : (f_30 (r_28.toNatClampNeg), f_31 (r_28.toNatClampNeg)) = (VALW l9 f1 f2 f3 f4 f5) z_1 x2 x3 := hst.val (by omega) (by omega) (by first | omega | (rw [ti_0]; omega)) hsl_r_28 hfo_r_28
        have hb_r_28 : 0 ≤ (f_31 (r_28.toNatClampNeg)).toInt := val_nn (VAL_low hlq.1 hlq.2 31 _ _ _) hv_r_28
        obtain ⟨hP1, hD1⟩ := hB
        rw [ht] at hP1
        obtain ⟨hP, hD⟩ := va_repl [(h0, .inr (8, [.ref la, .ref cl, .ref p0, .ref p1, .ref p4, .int n])), (la, .inr (5, [.int (l9 0), .int (l9 1), .int (l9 2), .int (l9 3), .int (l9 4), .int (l9 5), .int (l9 6)])), (cl, .inr (1, [.int n0, .ref c1, .ref c2, .ref c3, .ref c4, .ref c5, .ref c6, .ref c7])), (c1, .inl (T 0, 24, .inl f1)), (c2, .inl (T 0, 24, .inl f2)), (c3, .inl (T 0, 24, .inl f3)), (c4, .inl (T 0, 24, .inl f4)), (c5, .inl (T 0, 24, .inl f5)), (p0, .inl (T 1, 676, .inr (.inl f_30))), (p1, .inl (T 1, 676, .inr (.inl f_31))), (p4, .inl (T 0, 672, .inl f_32))] hP hD [0, 1, 2, 3, 4, 5, 6, 7, 8, 9, 10] [0, 1, 2, 3, 4, 5, 6, 7, 8, 9, 10] rfl (by decide +kernel) rfl rfl rfl hk1 hP1
        clear hP1 hD1 hFc
        generalize H1 = H at hP hS ⊢
        refine lv_istore (lv' := [(7, .int r_28), (6, .ref (ad 7)), (5, .int z_2), (4, .int z_1), (0, .ref h0), (1, .int x1), (2, .int x2), (3, .int x3)]) hx hb dX11_picked_130 hl (by decide +kernel) rfl (fun ls hl => ?_)
        refine lv_aload_n hx hb dX11_picked_132 rfl (lv_at hl 4 rfl) ?_
        refine lv_iload hx hb dX11_picked_133 (lv_at hl 2 rfl) ?_
        refine lv_iload_n hx hb dX11_picked_135 rfl (lv_at hl 6 rfl) ?_
        refine lv_iload_n hx hb dX11_picked_136 rfl (lv_at hl 7 rfl) ?_
        have hFc := va_free (wc := [(h0, .inr (8, [.ref la, .ref cl, .ref p0, .ref p1, .ref p4, .int n])), (la, .inr (5, [.int (l9 0), .int (l9 1), .int (l9 2), .int (l9 3), .int (l9 4), .int (l9 5), .int (l9 6)])), (cl, .inr (1, [.int n0, .ref c1, .ref c2, .ref c3, .ref c4, .ref c5, .ref c6, .ref c7])), (c1, .inl (T 0, 24, .inl f1)), (c2, .inl (T 0, 24, .inl f2)), (c3, .inl (T 0, 24, .inl f3)), (c4, .inl (T 0, 24, .inl f4)), (c5, .inl (T 0, 24, .inl f5)), (p0, .inl (T 1, 676, .inr (.inl f_30))), (p1, .inl (T 1, 676, .inr (.inl f_31))), (p4, .inl (T 0, 672, .inl f_32))]) hD hS hA [0, 1, 2, 3, 4, 5, 6, 7, 8, 9, 10] rfl
        refine va_calli (va_runV (As := [.int z_2, .int x2, .int x3]) (rest := []) ⟨hx, hb, hml, hown, hts⟩ (hrec _ h0 la cl p0 p1 p4 n l9 n0 c1 c2 c3 c4 c5 c6 c7 f1 f2 f3 f4 f5 f_30 f_31 f_32 z_2 x2 x3 (by omega) (by omega) (by omega) hok (by omega) hmm hlq (by omega)) (cwV 3 hts gX11_picked_X11_settle rfl rfl rfl hv_X11_settle ⟨(show _ ≤ (2 * d + 7 : Nat) from by (try dsimp only); omega), (show _ ≤ (64 * d + 280 : Nat) from by (try dsimp only); omega)⟩) (pWk_V (q := (RX11, TX11, 6)) (ci := 8) (q0 := 0) hP hE hD hV hS hFc rfl rfl [0, 1, 2, 3, 4, 5, 6, 7, 8, 9, 10] (by decide +kernel) rfl rfl) rfl rfl hl.1 rfl (lv_room (Nat.le_of_ble_eq_true rfl)) dX11_picked_137 ⟨Nat.le_of_ble_eq_true rfl, Nat.le_of_ble_eq_true rfl⟩) hS (fun q _ h => hFc q h) hFc (fun r_33 u_34 t H1 locs ht hvm hr_33 hB hz1 hk1 hS => ?_)
        obtain ⟨f_35, f_36, f_37⟩ := u_34
        obtain ⟨hqr_33, hsl_r_33, hfo_r_33, hstr_33⟩ := hr_33
        have hqr_33 : 0 ≤ r_33.toInt ∧ r_33.toInt < 672 := hqr_33
        have hsl_r_33 : r_33.toNatClampNeg = slN z_2 x2 x3 := hsl_r_33
        have hfo_r_33 : f_37 (slN z_2 x2 x3) = n := hfo_r_33
        have hsr_33 : stW (VALW l9 f1 f2 f3 f4 f5) n0 n (rgW z_2 x2) f_30 f_31 f_32 f_35 f_36 f_37 := hstr_33
        have hst : stW (VALW l9 f1 f2 f3 f4 f5) n0 n (rgP x1) g0 g1 g4 f_35 f_36 f_37 := hst.tr hsr_33 (fun j9 h9 => rgp_c (by omega) h9)
        have hmm : memW (VALW l9 f1 f2 f3 f4 f5) n0 n f_35 f_36 f_37 := hst.1
        have hfo_r_28 : f_37 (slN z_1 x2 x3) = n := hsr_33.2.1 _ (slN_lt (by omega) (by omega) (by omega)) hfo_r_28
        have hv_r_28 : (f_35 (r_28.toNatClampNeg), f_36 (r_28.toNatClampNeg)) = (VALW l9 f1 f2 f3 f4 f5) z_1 x2 x3 := hst.val (by omega) (by omega) (by omega) hsl_r_28 hfo_r_28
        have hb_r_28 : 0 ≤ (f_36 (r_28.toNatClampNeg)).toInt := val_nn (VAL_low hlq.1 hlq.2 31 _ _ _) hv_r_28
        have hv_r_33 : (f_35 (r_33.toNatClampNeg), f_36 (r_33.toNatClampNeg)) = (VALW l9 f1 f2 f3 f4 f5) z_2 x2 x3 := hst.val (by omega) (by omega) (by first | omega | (rw [ti_0]; omega)) hsl_r_33 hfo_r_33
        have hb_r_33 : 0 ≤ (f_36 (r_33.toNatClampNeg)).toInt := val_nn (VAL_low hlq.1 hlq.2 31 _ _ _) hv_r_33
        obtain ⟨hP1, hD1⟩ := hB
        rw [ht] at hP1
        obtain ⟨hP, hD⟩ := va_repl [(h0, .inr (8, [.ref la, .ref cl, .ref p0, .ref p1, .ref p4, .int n])), (la, .inr (5, [.int (l9 0), .int (l9 1), .int (l9 2), .int (l9 3), .int (l9 4), .int (l9 5), .int (l9 6)])), (cl, .inr (1, [.int n0, .ref c1, .ref c2, .ref c3, .ref c4, .ref c5, .ref c6, .ref c7])), (c1, .inl (T 0, 24, .inl f1)), (c2, .inl (T 0, 24, .inl f2)), (c3, .inl (T 0, 24, .inl f3)), (c4, .inl (T 0, 24, .inl f4)), (c5, .inl (T 0, 24, .inl f5)), (p0, .inl (T 1, 676, .inr (.inl f_35))), (p1, .inl (T 1, 676, .inr (.inl f_36))), (p4, .inl (T 0, 672, .inl f_37))] hP hD [0, 1, 2, 3, 4, 5, 6, 7, 8, 9, 10] [0, 1, 2, 3, 4, 5, 6, 7, 8, 9, 10] rfl (by decide +kernel) rfl rfl rfl hk1 hP1
        clear hP1 hD1 hFc
        generalize H1 = H at hP hS ⊢
        refine lv_istore (lv' := [(8, .int r_33), (7, .int r_28), (6, .ref (ad 7)), (5, .int z_2), (4, .int z_1), (0, .ref h0), (1, .int x1), (2, .int x2), (3, .int x3)]) hx hb dX11_picked_140 hl (by decide +kernel) rfl (fun ls hl => ?_)
        refine lv_aload_n hx hb dX11_picked_142 rfl (lv_at hl 5 rfl) ?_
        refine lv_iload hx hb dX11_picked_143 (lv_at hl 1 rfl) ?_
        refine vp_callSi (W.runV (As := [.int r_28]) (rest := []) ⟨hx, hb, hml, hown, hts⟩ (c_X11_isMuch l D T h0 [.ref la, .ref cl, .ref p0, .ref p1, .ref p4, .int n] p1 f_36 r_28 rfl (by first | decide | omega)) (cwV 1 hts gX11_picked_X11_isMuch rfl rfl rfl hv_X11_isMuch ⟨(show _ ≤ (2 * d + 7 : Nat) from by (try dsimp only); omega), (show _ ≤ (64 * d + 280 : Nat) from by (try dsimp only); omega)⟩) (pR_V (q := (RX11, TX11, 6)) (ci := 8) (q0 := 0) hP hE rfl rfl [0, 9] rfl) rfl rfl hl.1 rfl (lv_room (Nat.le_of_ble_eq_true rfl)) dX11_picked_145 ⟨Nat.le_of_ble_eq_true rfl, Nat.le_of_ble_eq_true rfl⟩) (fun r_38 hr_38 => ?_)
        rcases bool_post hr_38 with ⟨c_39, rfl⟩ | ⟨c_39, rfl⟩
        · refine lv_if_ne (tgt := 160) hx hb dX11_picked_148 (by decide +kernel) (fun _ => ?_) (fun c9 => absurd c9 (by decide +kernel))
          refine lv_bipush (v := (-5)) hx hb dX11_picked_160 (by decide +kernel) ?_
          exact W.iret hx hb hr (fun t ht hW => ⟨⟨_, (f_35, f_36, f_37), rfl, ⟨(Or.inl (by decide +kernel)), (show (-5 : Int32) = pickW l9 f1 f2 f3 f4 f5 (VALW l9 f1 f2 f3 f4 f5) x1 x2 x3 from (pk_m (l := l9) (fk := f1) (fn := f2) (fc := f3) (fd := f4) (fe := f5) (V := (VALW l9 f1 f2 f3 f4 f5)) (x := x1) (t := x2) (k := x3) (by omega) (by omega) (show ¬ (f5 ((f3 (x1.toNatClampNeg)).toNatClampNeg)).toInt < x2.toInt from by rw [← ez_1, ← ez_24]; omega) (fun h9 => by rcases h9 with h9 | h9 <;> first | omega | exact absurd h9 (show ¬ (f5 ((f4 (x1.toNatClampNeg)).toNatClampNeg)).toInt < x2.toInt from by rw [← ez_2, ← ez_26]; omega)) (by rw [(show (VALW l9 f1 f2 f3 f4 f5) (f3 (x1.toNatClampNeg)) x2 x3 = (f_35 (r_28.toNatClampNeg), f_36 (r_28.toNatClampNeg)) from by rw [← ez_1]; exact hv_r_28.symm), (show (VALW l9 f1 f2 f3 f4 f5) (f4 (x1.toNatClampNeg)) x2 x3 = (f_35 (r_33.toNatClampNeg), f_36 (r_33.toNatClampNeg)) from by rw [← ez_2]; exact hv_r_33.symm)]; first | exact Or.inl (show (f_36 (r_28.toNatClampNeg)).toInt = 0 from by omega) | exact Or.inr (show (f_36 (r_33.toNatClampNeg)).toInt = 0 from by omega))).symm), hst⟩, by rw [ht]; exact hP.sub [0, 1, 2, 3, 4, 5, 6, 7, 8, 9, 10] rfl, hD.sub [0, 1, 2, 3, 4, 5, 6, 7, 8, 9, 10] (by decide +kernel) rfl⟩, hS.F ht⟩) hS.2.2 dX11_picked_162
        · refine lv_if_ne (tgt := 160) hx hb dX11_picked_148 (by decide +kernel) (fun c9 => absurd c9 (by decide +kernel)) (fun _ => ?_)
          refine lv_aload_n hx hb dX11_picked_151 rfl (lv_at hl 5 rfl) ?_
          refine lv_iload hx hb dX11_picked_152 (lv_at hl 0 rfl) ?_
          refine vp_callSi (W.runV (As := [.int r_33]) (rest := []) ⟨hx, hb, hml, hown, hts⟩ (c_X11_isMuch l D T h0 [.ref la, .ref cl, .ref p0, .ref p1, .ref p4, .int n] p1 f_36 r_33 rfl (by first | decide | omega)) (cwV 1 hts gX11_picked_X11_isMuch rfl rfl rfl hv_X11_isMuch ⟨(show _ ≤ (2 * d + 7 : Nat) from by (try dsimp only); omega), (show _ ≤ (64 * d + 280 : Nat) from by (try dsimp only); omega)⟩) (pR_V (q := (RX11, TX11, 6)) (ci := 8) (q0 := 0) hP hE rfl rfl [0, 9] rfl) rfl rfl hl.1 rfl (lv_room (Nat.le_of_ble_eq_true rfl)) dX11_picked_154 ⟨Nat.le_of_ble_eq_true rfl, Nat.le_of_ble_eq_true rfl⟩) (fun r_40 hr_40 => ?_)
          rcases bool_post hr_40 with ⟨c_41, rfl⟩ | ⟨c_41, rfl⟩
          · refine lv_if_eq (tgt := 163) hx hb dX11_picked_157 (by decide +kernel) (fun c9 => absurd c9 (by decide +kernel)) (fun _ => ?_)
            refine lv_bipush (v := (-5)) hx hb dX11_picked_160 (by decide +kernel) ?_
            exact W.iret hx hb hr (fun t ht hW => ⟨⟨_, (f_35, f_36, f_37), rfl, ⟨(Or.inl (by decide +kernel)), (show (-5 : Int32) = pickW l9 f1 f2 f3 f4 f5 (VALW l9 f1 f2 f3 f4 f5) x1 x2 x3 from (pk_m (l := l9) (fk := f1) (fn := f2) (fc := f3) (fd := f4) (fe := f5) (V := (VALW l9 f1 f2 f3 f4 f5)) (x := x1) (t := x2) (k := x3) (by omega) (by omega) (show ¬ (f5 ((f3 (x1.toNatClampNeg)).toNatClampNeg)).toInt < x2.toInt from by rw [← ez_1, ← ez_24]; omega) (fun h9 => by rcases h9 with h9 | h9 <;> first | omega | exact absurd h9 (show ¬ (f5 ((f4 (x1.toNatClampNeg)).toNatClampNeg)).toInt < x2.toInt from by rw [← ez_2, ← ez_26]; omega)) (by rw [(show (VALW l9 f1 f2 f3 f4 f5) (f3 (x1.toNatClampNeg)) x2 x3 = (f_35 (r_28.toNatClampNeg), f_36 (r_28.toNatClampNeg)) from by rw [← ez_1]; exact hv_r_28.symm), (show (VALW l9 f1 f2 f3 f4 f5) (f4 (x1.toNatClampNeg)) x2 x3 = (f_35 (r_33.toNatClampNeg), f_36 (r_33.toNatClampNeg)) from by rw [← ez_2]; exact hv_r_33.symm)]; first | exact Or.inl (show (f_36 (r_28.toNatClampNeg)).toInt = 0 from by omega) | exact Or.inr (show (f_36 (r_33.toNatClampNeg)).toInt = 0 from by omega))).symm), hst⟩, by rw [ht]; exact hP.sub [0, 1, 2, 3, 4, 5, 6, 7, 8, 9, 10] rfl, hD.sub [0, 1, 2, 3, 4, 5, 6, 7, 8, 9, 10] (by decide +kernel) rfl⟩, hS.F ht⟩) hS.2.2 dX11_picked_162
          · refine lv_if_eq (tgt := 163) hx hb dX11_picked_157 (by decide +kernel) (fun _ => ?_) (fun c9 => absurd c9 (by decide +kernel))
            refine lv_aload_n hx hb dX11_picked_163 rfl (lv_at hl 5 rfl) ?_
            refine lv_iload hx hb dX11_picked_164 (lv_at hl 0 rfl) ?_
            refine lv_iload hx hb dX11_picked_166 (lv_at hl 1 rfl) ?_
            refine vp_callSi (W.runV (As := [.int r_33, .int r_28]) (rest := []) ⟨hx, hb, hml, hown, hts⟩ (c_X11_order l D T h0 [.ref la, .ref cl, .ref p0, .ref p1, .ref p4, .int n] p1 f_36 p0 f_35 r_33 r_28 rfl rfl (by first | decide | omega) (by first | decide | omega) (by first | omega | assumption | decide) (by first | omega | assumption | decide)) (cwV 2 hts gX11_picked_X11_order rfl rfl rfl hv_X11_order ⟨(show _ ≤ (2 * d + 7 : Nat) from by (try dsimp only); omega), (show _ ≤ (64 * d + 280 : Nat) from by (try dsimp only); omega)⟩) (pR_V (q := (RX11, TX11, 6)) (ci := 8) (q0 := 0) hP hE rfl rfl [0, 9, 8] rfl) rfl rfl hl.1 rfl (lv_room (Nat.le_of_ble_eq_true rfl)) dX11_picked_168 ⟨Nat.le_of_ble_eq_true rfl, Nat.le_of_ble_eq_true rfl⟩) (fun r_42 hr_42 => ?_)
            refine lv_istore (lv' := [(9, .int r_42), (8, .int r_33), (7, .int r_28), (6, .ref (ad 7)), (5, .int z_2), (4, .int z_1), (0, .ref h0), (1, .int x1), (2, .int x2), (3, .int x3)]) hx hb dX11_picked_171 hl (by decide +kernel) rfl (fun ls hl => ?_)
            refine lv_aload hx hb dX11_picked_173 (lv_at hl 3 rfl) ?_
            refine va_gets (v := .ref (ad 6)) hx hb (hV.1.1.1 6 (by decide +kernel)).1 hS hown (hts (.fieldLink RX11 126 "ClauseBook$Kind" "BETTER" "LClauseBook$Kind;") (List.mem_of_getElem? (i := 10) rfl)) (fun _ h9 => h9) dX11_picked_175 ?_
            refine lv_acmp_ne (rx := some (ad 7)) (ry := some (ad 6)) (tgt := 189) hx hb dX11_picked_178 (by decide +kernel) (fun _ => ?_) (fun c9 => absurd c9 (fun h => absurd (hV.1.1.2 7 6 (by decide +kernel) (by decide +kernel) (Option.some.inj h)) (by decide +kernel)))
            refine lv_iload hx hb dX11_picked_189 (lv_at hl 0 rfl) ?_
            refine lv_if_ge (tgt := 199) hx hb dX11_picked_191 (by decide +kernel) (fun c_43 => ?_) (fun c_43 => ?_)
            · rw [fa_le] at c_43
              try rw [ti_0] at c_43
              refine lv_iload hx hb dX11_picked_199 (lv_at hl 5 rfl) ?_
              exact W.iret hx hb hr (fun t ht hW => ⟨⟨_, (f_35, f_36, f_37), rfl, ⟨(Or.inr (by omega)), (show z_1 = pickW l9 f1 f2 f3 f4 f5 (VALW l9 f1 f2 f3 f4 f5) x1 x2 x3 from (ez_1.trans (pk_n (l := l9) (fk := f1) (fn := f2) (fc := f3) (fd := f4) (fe := f5) (V := (VALW l9 f1 f2 f3 f4 f5)) (x := x1) (t := x2) (k := x3) (by omega) (by omega) (show ¬ (f5 ((f3 (x1.toNatClampNeg)).toNatClampNeg)).toInt < x2.toInt from by rw [← ez_1, ← ez_24]; omega) (fun h9 => by rcases h9 with h9 | h9 <;> first | omega | exact absurd h9 (show ¬ (f5 ((f4 (x1.toNatClampNeg)).toNatClampNeg)).toInt < x2.toInt from by rw [← ez_2, ← ez_26]; omega)) (by rw [(show (VALW l9 f1 f2 f3 f4 f5) (f3 (x1.toNatClampNeg)) x2 x3 = (f_35 (r_28.toNatClampNeg), f_36 (r_28.toNatClampNeg)) from by rw [← ez_1]; exact hv_r_28.symm), (show (VALW l9 f1 f2 f3 f4 f5) (f4 (x1.toNatClampNeg)) x2 x3 = (f_35 (r_33.toNatClampNeg), f_36 (r_33.toNatClampNeg)) from by rw [← ez_2]; exact hv_r_33.symm)]; intro h9; rcases h9 with h9 | h9 <;> first | exact absurd (show (f_36 (r_28.toNatClampNeg)).toInt = 0 from h9) (by omega) | exact absurd (show (f_36 (r_33.toNatClampNeg)).toInt = 0 from h9) (by omega)) (by rw [(show (VALW l9 f1 f2 f3 f4 f5) (f3 (x1.toNatClampNeg)) x2 x3 = (f_35 (r_28.toNatClampNeg), f_36 (r_28.toNatClampNeg)) from by rw [← ez_1]; exact hv_r_28.symm), (show (VALW l9 f1 f2 f3 f4 f5) (f4 (x1.toNatClampNeg)) x2 x3 = (f_35 (r_33.toNatClampNeg), f_36 (r_33.toNatClampNeg)) from by rw [← ez_2]; exact hv_r_33.symm)]; intro h9; rcases h9 with ⟨h8, h9⟩ | ⟨h8, h9⟩ <;> first | omega | (unfold cmpP at h9; rw [← hr_42] at h9; omega))).symm)), hst⟩, by rw [ht]; exact hP.sub [0, 1, 2, 3, 4, 5, 6, 7, 8, 9, 10] rfl, hD.sub [0, 1, 2, 3, 4, 5, 6, 7, 8, 9, 10] (by decide +kernel) rfl⟩, hS.F ht⟩) hS.2.2 dX11_picked_201
            · rw [fa_le] at c_43
              try rw [ti_0] at c_43
              refine lv_iload hx hb dX11_picked_194 (lv_at hl 4 rfl) ?_
              refine lv_goto (tgt := 201) hx hb dX11_picked_196 (by decide +kernel) ?_
              exact W.iret hx hb hr (fun t ht hW => ⟨⟨_, (f_35, f_36, f_37), rfl, ⟨(Or.inr (by omega)), (show z_2 = pickW l9 f1 f2 f3 f4 f5 (VALW l9 f1 f2 f3 f4 f5) x1 x2 x3 from (ez_2.trans (pk_y (l := l9) (fk := f1) (fn := f2) (fc := f3) (fd := f4) (fe := f5) (V := (VALW l9 f1 f2 f3 f4 f5)) (x := x1) (t := x2) (k := x3) (by omega) (by omega) (show ¬ (f5 ((f3 (x1.toNatClampNeg)).toNatClampNeg)).toInt < x2.toInt from by rw [← ez_1, ← ez_24]; omega) (fun h9 => by rcases h9 with h9 | h9 <;> first | omega | exact absurd h9 (show ¬ (f5 ((f4 (x1.toNatClampNeg)).toNatClampNeg)).toInt < x2.toInt from by rw [← ez_2, ← ez_26]; omega)) (by rw [(show (VALW l9 f1 f2 f3 f4 f5) (f3 (x1.toNatClampNeg)) x2 x3 = (f_35 (r_28.toNatClampNeg), f_36 (r_28.toNatClampNeg)) from by rw [← ez_1]; exact hv_r_28.symm), (show (VALW l9 f1 f2 f3 f4 f5) (f4 (x1.toNatClampNeg)) x2 x3 = (f_35 (r_33.toNatClampNeg), f_36 (r_33.toNatClampNeg)) from by rw [← ez_2]; exact hv_r_33.symm)]; intro h9; rcases h9 with h9 | h9 <;> first | exact absurd (show (f_36 (r_28.toNatClampNeg)).toInt = 0 from h9) (by omega) | exact absurd (show (f_36 (r_33.toNatClampNeg)).toInt = 0 from h9) (by omega)) (by rw [(show (VALW l9 f1 f2 f3 f4 f5) (f3 (x1.toNatClampNeg)) x2 x3 = (f_35 (r_28.toNatClampNeg), f_36 (r_28.toNatClampNeg)) from by rw [← ez_1]; exact hv_r_28.symm), (show (VALW l9 f1 f2 f3 f4 f5) (f4 (x1.toNatClampNeg)) x2 x3 = (f_35 (r_33.toNatClampNeg), f_36 (r_33.toNatClampNeg)) from by rw [← ez_2]; exact hv_r_33.symm)]; first | exact Or.inl ⟨by omega, (by unfold cmpP; rw [← hr_42]; omega)⟩ | exact Or.inr ⟨by omega, (by unfold cmpP; rw [← hr_42]; omega)⟩)).symm)), hst⟩, by rw [ht]; exact hP.sub [0, 1, 2, 3, 4, 5, 6, 7, 8, 9, 10] rfl, hD.sub [0, 1, 2, 3, 4, 5, 6, 7, 8, 9, 10] (by decide +kernel) rfl⟩, hS.F ht⟩) hS.2.2 dX11_picked_201
      · rw [fa_le] at c_27
        refine lv_iload hx hb dX11_picked_119 (lv_at hl 2 rfl) ?_
        exact W.iret hx hb hr (fun t ht hW => ⟨⟨_, (g0, g1, g4), rfl, ⟨(Or.inr (by omega)), (show z_1 = pickW l9 f1 f2 f3 f4 f5 (VALW l9 f1 f2 f3 f4 f5) x1 x2 x3 from (ez_1.trans (pk_d (l := l9) (fk := f1) (fn := f2) (fc := f3) (fd := f4) (fe := f5) (V := (VALW l9 f1 f2 f3 f4 f5)) (x := x1) (t := x2) (k := x3) (by omega) (by omega) (show ¬ (f5 ((f3 (x1.toNatClampNeg)).toNatClampNeg)).toInt < x2.toInt from by rw [← ez_1, ← ez_24]; omega) (by first | exact Or.inl (by omega) | exact Or.inr (show (f5 ((f4 (x1.toNatClampNeg)).toNatClampNeg)).toInt < x2.toInt from by rw [← ez_2, ← ez_26]; omega))).symm)), hst⟩, by rw [ht]; exact hP.sub [0, 1, 2, 3, 4, 5, 6, 7, 8, 9, 10] rfl, hD.sub [0, 1, 2, 3, 4, 5, 6, 7, 8, 9, 10] (by decide +kernel) rfl⟩, hS.F ht⟩) hS.2.2 dX11_picked_121
    · rw [fa_le] at c_25
      refine lv_iload hx hb dX11_picked_94 (lv_at hl 1 rfl) ?_
      exact W.iret hx hb hr (fun t ht hW => ⟨⟨_, (g0, g1, g4), rfl, ⟨(Or.inr (by omega)), (show z_2 = pickW l9 f1 f2 f3 f4 f5 (VALW l9 f1 f2 f3 f4 f5) x1 x2 x3 from (ez_2.trans (pk_c (l := l9) (fk := f1) (fn := f2) (fc := f3) (fd := f4) (fe := f5) (V := (VALW l9 f1 f2 f3 f4 f5)) (x := x1) (t := x2) (k := x3) (by omega) (by omega) (show (f5 ((f3 (x1.toNatClampNeg)).toNatClampNeg)).toInt < x2.toInt from by rw [← ez_1, ← ez_24]; omega)).symm)), hst⟩, by rw [ht]; exact hP.sub [0, 1, 2, 3, 4, 5, 6, 7, 8, 9, 10] rfl, hD.sub [0, 1, 2, 3, 4, 5, 6, 7, 8, 9, 10] (by decide +kernel) rfl⟩, hS.F ht⟩) hS.2.2 dX11_picked_96
  · refine W.eq (g2 := F0 m 30 ls [.ref (ad 8)]) (by rw [hk9]) ?_
    have hc9 : 0 ≤ z_1.toInt ∧ z_1.toInt < x1.toInt := by
      have h := (hok _ (in24 (x := x1) (by omega)).1).2.1 (by rw [hk9]; decide)
      have h2 := (in24 (x := x1) (by omega)).2
      rw [ez_1]
      omega
    refine lv_astore (lv' := [(6, .ref (ad 8)), (5, .int z_2), (4, .int z_1), (0, .ref h0), (1, .int x1), (2, .int x2), (3, .int x3)]) hx hb dX11_picked_30 hl (by decide +kernel) rfl (fun ls hl => ?_)
    refine lv_aload hx hb dX11_picked_32 (lv_at hl 0 rfl) ?_
    refine va_gets (v := .ref (ad 8)) hx hb (hV.1.1.1 8 (by decide +kernel)).1 hS hown (hts (.fieldLink RX11 117 "ClauseBook$Kind" "UNTIL" "LClauseBook$Kind;") (List.mem_of_getElem? (i := 4) rfl)) (fun _ h9 => h9) dX11_picked_34 ?_
    refine lv_acmp_ne (rx := some (ad 8)) (ry := some (ad 8)) (tgt := 43) hx hb dX11_picked_37 (by decide +kernel) (fun c9 => absurd c9 (not_not_intro rfl)) (fun _ => ?_)
    refine lv_iload hx hb dX11_picked_40 (lv_at hl 2 rfl) ?_
    exact W.iret hx hb hr (fun t ht hW => ⟨⟨_, (g0, g1, g4), rfl, ⟨(Or.inr (by omega)), (show z_1 = pickW l9 f1 f2 f3 f4 f5 (VALW l9 f1 f2 f3 f4 f5) x1 x2 x3 from (ez_1.trans (pk_8 (l := l9) (fk := f1) (fn := f2) (fc := f3) (fd := f4) (fe := f5) (V := (VALW l9 f1 f2 f3 f4 f5)) (x := x1) (t := x2) (k := x3) hk9).symm)), hst⟩, by rw [ht]; exact hP.sub [0, 1, 2, 3, 4, 5, 6, 7, 8, 9, 10] rfl, hD.sub [0, 1, 2, 3, 4, 5, 6, 7, 8, 9, 10] (by decide +kernel) rfl⟩, hS.F ht⟩) hS.2.2 dX11_picked_42
  · refine W.eq (g2 := F0 m 30 ls [.ref (ad 9)]) (by rw [hk9]) ?_
    have hc9 : 0 ≤ z_1.toInt ∧ z_1.toInt < x1.toInt := by
      have h := (hok _ (in24 (x := x1) (by omega)).1).2.1 (by rw [hk9]; decide)
      have h2 := (in24 (x := x1) (by omega)).2
      rw [ez_1]
      omega
    have hd9 : 0 ≤ (f4 (x1.toNatClampNeg)).toInt ∧ (f4 (x1.toNatClampNeg)).toInt < x1.toInt := by
      have h := (hok _ (in24 (x := x1) (by omega)).1).2.2.1 (by rw [hk9]; decide)
      have h2 := (in24 (x := x1) (by omega)).2
      omega
    have hd8 : 0 ≤ z_2.toInt ∧ z_2.toInt < x1.toInt := by rw [ez_2]; exact hd9
    refine lv_astore (lv' := [(6, .ref (ad 9)), (5, .int z_2), (4, .int z_1), (0, .ref h0), (1, .int x1), (2, .int x2), (3, .int x3)]) hx hb dX11_picked_30 hl (by decide +kernel) rfl (fun ls hl => ?_)
    refine lv_aload hx hb dX11_picked_32 (lv_at hl 0 rfl) ?_
    refine va_gets (v := .ref (ad 8)) hx hb (hV.1.1.1 8 (by decide +kernel)).1 hS hown (hts (.fieldLink RX11 117 "ClauseBook$Kind" "UNTIL" "LClauseBook$Kind;") (List.mem_of_getElem? (i := 4) rfl)) (fun _ h9 => h9) dX11_picked_34 ?_
    refine lv_acmp_ne (rx := some (ad 9)) (ry := some (ad 8)) (tgt := 43) hx hb dX11_picked_37 (by decide +kernel) (fun _ => ?_) (fun c9 => absurd c9 (fun h => absurd (hV.1.1.2 9 8 (by decide +kernel) (by decide +kernel) (Option.some.inj h)) (by decide +kernel)))
    refine lv_aload hx hb dX11_picked_43 (lv_at hl 0 rfl) ?_
    refine va_gets (v := .ref (ad 12)) hx hb (hV.1.1.1 12 (by decide +kernel)).1 hS hown (hts (.fieldLink RX11 120 "ClauseBook$Kind" "WHERE" "LClauseBook$Kind;") (List.mem_of_getElem? (i := 5) rfl)) (fun _ h9 => h9) dX11_picked_45 ?_
    refine lv_acmp_ne (rx := some (ad 9)) (ry := some (ad 12)) (tgt := 80) hx hb dX11_picked_48 (by decide +kernel) (fun _ => ?_) (fun c9 => absurd c9 (fun h => absurd (hV.1.1.2 9 12 (by decide +kernel) (by decide +kernel) (Option.some.inj h)) (by decide +kernel)))
    refine lv_iload_n hx hb dX11_picked_80 rfl (lv_at hl 5 rfl) ?_
    refine lv_aload_n hx hb dX11_picked_81 rfl (lv_at hl 3 rfl) ?_
    refine va_get (D := D) (ci := 8) (v := .ref cl) (C := RX11) (T := TX11) (N := 6) hx hb hts in_X11_picked_X11 hown hE.1 hP 0 rfl rfl 1 (by decide +kernel) (hts (.fieldLink RX11 30 "ClauseBook$Worth" "clauses" "LClauseBook$Clauses;") (List.mem_of_getElem? (i := 1) rfl)) (fun _ h9 => h9) rfl dX11_picked_82 ?_
    refine va_get (D := D) (ci := 1) (v := .ref c5) (C := RX2) (T := TX2) (N := 8) hx hb hts in_X11_picked_X2 hown hE.1 hP 2 rfl rfl 5 (by decide +kernel) (hts (.fieldLink RX11 45 "ClauseBook$Clauses" "end" "[I") (List.mem_of_getElem? (i := 8) rfl)) (fun _ h9 => h9) rfl dX11_picked_85 ?_
    refine lv_iload hx hb dX11_picked_88 (lv_at hl 2 rfl) ?_
    refine va_iald hx hb hE.1 hP 7 0 rfl rfl (by rw [vp_in_iff]; first | omega | (subst_vars; omega)) dX11_picked_90 ?_
    refine lv_topi (fun z_44 ez_44 => ?_)
    refine lv_icmp_le (tgt := 97) hx hb dX11_picked_91 (by decide +kernel) (fun c_45 => ?_) (fun c_45 => ?_)
    · rw [fa_le] at c_45
      refine lv_aload hx hb dX11_picked_97 (lv_at hl 0 rfl) ?_
      refine va_gets (v := .ref (ad 9)) hx hb (hV.1.1.1 9 (by decide +kernel)).1 hS hown (hts (.fieldLink RX11 123 "ClauseBook$Kind" "THEN" "LClauseBook$Kind;") (List.mem_of_getElem? (i := 9) rfl)) (fun _ h9 => h9) dX11_picked_99 ?_
      refine lv_acmp_eq (rx := some (ad 9)) (ry := some (ad 9)) (tgt := 119) hx hb dX11_picked_102 (by decide +kernel) (fun _ => ?_) (fun c9 => absurd c9 (not_not_intro rfl))
      refine lv_iload hx hb dX11_picked_119 (lv_at hl 2 rfl) ?_
      exact W.iret hx hb hr (fun t ht hW => ⟨⟨_, (g0, g1, g4), rfl, ⟨(Or.inr (by omega)), (show z_1 = pickW l9 f1 f2 f3 f4 f5 (VALW l9 f1 f2 f3 f4 f5) x1 x2 x3 from (ez_1.trans (pk_d (l := l9) (fk := f1) (fn := f2) (fc := f3) (fd := f4) (fe := f5) (V := (VALW l9 f1 f2 f3 f4 f5)) (x := x1) (t := x2) (k := x3) (by omega) (by omega) (show ¬ (f5 ((f3 (x1.toNatClampNeg)).toNatClampNeg)).toInt < x2.toInt from by rw [← ez_1, ← ez_44]; omega) (by first | exact Or.inl (by omega) | exact Or.inr (by omega))).symm)), hst⟩, by rw [ht]; exact hP.sub [0, 1, 2, 3, 4, 5, 6, 7, 8, 9, 10] rfl, hD.sub [0, 1, 2, 3, 4, 5, 6, 7, 8, 9, 10] (by decide +kernel) rfl⟩, hS.F ht⟩) hS.2.2 dX11_picked_121
    · rw [fa_le] at c_45
      refine lv_iload hx hb dX11_picked_94 (lv_at hl 1 rfl) ?_
      exact W.iret hx hb hr (fun t ht hW => ⟨⟨_, (g0, g1, g4), rfl, ⟨(Or.inr (by omega)), (show z_2 = pickW l9 f1 f2 f3 f4 f5 (VALW l9 f1 f2 f3 f4 f5) x1 x2 x3 from (ez_2.trans (pk_c (l := l9) (fk := f1) (fn := f2) (fc := f3) (fd := f4) (fe := f5) (V := (VALW l9 f1 f2 f3 f4 f5)) (x := x1) (t := x2) (k := x3) (by omega) (by omega) (show (f5 ((f3 (x1.toNatClampNeg)).toNatClampNeg)).toInt < x2.toInt from by rw [← ez_1, ← ez_44]; omega)).symm)), hst⟩, by rw [ht]; exact hP.sub [0, 1, 2, 3, 4, 5, 6, 7, 8, 9, 10] rfl, hD.sub [0, 1, 2, 3, 4, 5, 6, 7, 8, 9, 10] (by decide +kernel) rfl⟩, hS.F ht⟩) hS.2.2 dX11_picked_96
  · refine W.eq (g2 := F0 m 30 ls [.ref (ad 12)]) (by rw [hk9]) ?_
    have hc9 : 0 ≤ z_1.toInt ∧ z_1.toInt < x1.toInt := by
      have h := (hok _ (in24 (x := x1) (by omega)).1).2.1 (by rw [hk9]; decide)
      have h2 := (in24 (x := x1) (by omega)).2
      rw [ez_1]
      omega
    have hd9 : 0 ≤ (f4 (x1.toNatClampNeg)).toInt ∧ (f4 (x1.toNatClampNeg)).toInt < x1.toInt := by
      have h := (hok _ (in24 (x := x1) (by omega)).1).2.2.1 (by rw [hk9]; decide)
      have h2 := (in24 (x := x1) (by omega)).2
      omega
    have hd8 : 0 ≤ z_2.toInt ∧ z_2.toInt < x1.toInt := by rw [ez_2]; exact hd9
    refine lv_astore (lv' := [(6, .ref (ad 12)), (5, .int z_2), (4, .int z_1), (0, .ref h0), (1, .int x1), (2, .int x2), (3, .int x3)]) hx hb dX11_picked_30 hl (by decide +kernel) rfl (fun ls hl => ?_)
    refine lv_aload hx hb dX11_picked_32 (lv_at hl 0 rfl) ?_
    refine va_gets (v := .ref (ad 8)) hx hb (hV.1.1.1 8 (by decide +kernel)).1 hS hown (hts (.fieldLink RX11 117 "ClauseBook$Kind" "UNTIL" "LClauseBook$Kind;") (List.mem_of_getElem? (i := 4) rfl)) (fun _ h9 => h9) dX11_picked_34 ?_
    refine lv_acmp_ne (rx := some (ad 12)) (ry := some (ad 8)) (tgt := 43) hx hb dX11_picked_37 (by decide +kernel) (fun _ => ?_) (fun c9 => absurd c9 (fun h => absurd (hV.1.1.2 12 8 (by decide +kernel) (by decide +kernel) (Option.some.inj h)) (by decide +kernel)))
    refine lv_aload hx hb dX11_picked_43 (lv_at hl 0 rfl) ?_
    refine va_gets (v := .ref (ad 12)) hx hb (hV.1.1.1 12 (by decide +kernel)).1 hS hown (hts (.fieldLink RX11 120 "ClauseBook$Kind" "WHERE" "LClauseBook$Kind;") (List.mem_of_getElem? (i := 5) rfl)) (fun _ h9 => h9) dX11_picked_45 ?_
    refine lv_acmp_ne (rx := some (ad 12)) (ry := some (ad 12)) (tgt := 80) hx hb dX11_picked_48 (by decide +kernel) (fun c9 => absurd c9 (not_not_intro rfl)) (fun _ => ?_)
    refine lv_aload_n hx hb dX11_picked_51 rfl (lv_at hl 3 rfl) ?_
    refine va_get (D := D) (ci := 8) (v := .ref la) (C := RX11) (T := TX11) (N := 6) hx hb hts in_X11_picked_X11 hown hE.1 hP 0 rfl rfl 0 (by decide +kernel) (hts (.fieldLink RX11 26 "ClauseBook$Worth" "lattice" "LClauseBook$Lattice;") (List.mem_of_getElem? (i := 6) rfl)) (fun _ h9 => h9) rfl dX11_picked_52 ?_
    refine lv_iload_n hx hb dX11_picked_55 rfl (lv_at hl 5 rfl) ?_
    refine lv_iload_n hx hb dX11_picked_56 rfl (lv_at hl 6 rfl) ?_
    refine vp_callSi (W.runV (As := [.int x2, .int x3]) (rest := []) ⟨hx, hb, hml, hown, hts⟩ (c_X8_priceAt l D T la [.int (l9 0), .int (l9 1), .int (l9 2), .int (l9 3), .int (l9 4), .int (l9 5), .int (l9 6)] x2 x3 (l9 0) (l9 1) (l9 2) rfl rfl rfl) (cwV 2 hts gX11_picked_X8_priceAt rfl rfl rfl hv_X8_priceAt ⟨(show _ ≤ (2 * d + 7 : Nat) from by (try dsimp only); omega), (show _ ≤ (64 * d + 280 : Nat) from by (try dsimp only); omega)⟩) (pR_V (q := (RX8, TX8, 7)) (ci := 5) (q0 := 1) hP hE rfl rfl [1] rfl) rfl rfl hl.1 rfl (lv_room (Nat.le_of_ble_eq_true rfl)) dX11_picked_57 ⟨Nat.le_of_ble_eq_true rfl, Nat.le_of_ble_eq_true rfl⟩) (fun r_46 hr_46 => ?_)
    refine lv_aload_n hx hb dX11_picked_60 rfl (lv_at hl 3 rfl) ?_
    refine va_get (D := D) (ci := 8) (v := .ref cl) (C := RX11) (T := TX11) (N := 6) hx hb hts in_X11_picked_X11 hown hE.1 hP 0 rfl rfl 1 (by decide +kernel) (hts (.fieldLink RX11 30 "ClauseBook$Worth" "clauses" "LClauseBook$Clauses;") (List.mem_of_getElem? (i := 1) rfl)) (fun _ h9 => h9) rfl dX11_picked_61 ?_
    refine va_get (D := D) (ci := 1) (v := .ref c2) (C := RX2) (T := TX2) (N := 8) hx hb hts in_X11_picked_X2 hown hE.1 hP 2 rfl rfl 2 (by decide +kernel) (hts (.fieldLink RX11 81 "ClauseBook$Clauses" "n" "[I") (List.mem_of_getElem? (i := 7) rfl)) (fun _ h9 => h9) rfl dX11_picked_64 ?_
    refine lv_iload_n hx hb dX11_picked_67 rfl (lv_at hl 4 rfl) ?_
    refine va_iald hx hb hE.1 hP 4 0 rfl rfl (by rw [vp_in_iff]; first | omega | (subst_vars; omega)) dX11_picked_68 ?_
    refine lv_topi (fun z_47 ez_47 => ?_)
    refine lv_icmp_lt (tgt := 77) hx hb dX11_picked_69 (by decide +kernel) (fun c_48 => ?_) (fun c_48 => ?_)
    · rw [fa_lt] at c_48
      refine lv_iload hx hb dX11_picked_77 (lv_at hl 1 rfl) ?_
      exact W.iret hx hb hr (fun t ht hW => ⟨⟨_, (g0, g1, g4), rfl, ⟨(Or.inr (by omega)), (show z_2 = pickW l9 f1 f2 f3 f4 f5 (VALW l9 f1 f2 f3 f4 f5) x1 x2 x3 from (ez_2.trans (pk_12n (l := l9) (fk := f1) (fn := f2) (fc := f3) (fd := f4) (fe := f5) (V := (VALW l9 f1 f2 f3 f4 f5)) (x := x1) (t := x2) (k := x3) hk9 (show ¬ (f2 (x1.toNatClampNeg)).toInt ≤ (prW l9 x2 x3).toInt from by unfold prW; rw [← hr_46, ← ez_47]; omega)).symm)), hst⟩, by rw [ht]; exact hP.sub [0, 1, 2, 3, 4, 5, 6, 7, 8, 9, 10] rfl, hD.sub [0, 1, 2, 3, 4, 5, 6, 7, 8, 9, 10] (by decide +kernel) rfl⟩, hS.F ht⟩) hS.2.2 dX11_picked_79
    · rw [fa_lt] at c_48
      refine lv_iload hx hb dX11_picked_72 (lv_at hl 2 rfl) ?_
      refine lv_goto (tgt := 79) hx hb dX11_picked_74 (by decide +kernel) ?_
      exact W.iret hx hb hr (fun t ht hW => ⟨⟨_, (g0, g1, g4), rfl, ⟨(Or.inr (by omega)), (show z_1 = pickW l9 f1 f2 f3 f4 f5 (VALW l9 f1 f2 f3 f4 f5) x1 x2 x3 from (ez_1.trans (pk_12y (l := l9) (fk := f1) (fn := f2) (fc := f3) (fd := f4) (fe := f5) (V := (VALW l9 f1 f2 f3 f4 f5)) (x := x1) (t := x2) (k := x3) hk9 (show (f2 (x1.toNatClampNeg)).toInt ≤ (prW l9 x2 x3).toInt from by unfold prW; rw [← hr_46, ← ez_47]; omega)).symm)), hst⟩, by rw [ht]; exact hP.sub [0, 1, 2, 3, 4, 5, 6, 7, 8, 9, 10] rfl, hD.sub [0, 1, 2, 3, 4, 5, 6, 7, 8, 9, 10] (by decide +kernel) rfl⟩, hS.F ht⟩) hS.2.2 dX11_picked_79
theorem dX11_average_0 : decode cX11_average 0 = .ok (.aload_n 0, 1) := by decide +kernel
theorem dX11_average_1 : decode cX11_average 1 = .ok (.iload_n 2, 1) := by decide +kernel
theorem dX11_average_100 : decode cX11_average 100 = .ok (.aload_n 0, 1) := by decide +kernel
theorem dX11_average_101 : decode cX11_average 101 = .ok (.getfield 26, 3) := by decide +kernel
theorem dX11_average_104 : decode cX11_average 104 = .ok (.getfield 132, 3) := by decide +kernel
theorem dX11_average_107 : decode cX11_average 107 = .ok (.imul, 1) := by decide +kernel
theorem dX11_average_108 : decode cX11_average 108 = .ok (.i2l, 1) := by decide +kernel
theorem dX11_average_109 : decode cX11_average 109 = .ok (.invokevirtual 141, 3) := by decide +kernel
theorem dX11_average_112 : decode cX11_average 112 = .ok (.aload_n 0, 1) := by decide +kernel
theorem dX11_average_113 : decode cX11_average 113 = .ok (.iload_n 1, 1) := by decide +kernel
theorem dX11_average_114 : decode cX11_average 114 = .ok (.iload_n 1, 1) := by decide +kernel
theorem dX11_average_115 : decode cX11_average 115 = .ok (.aload_n 0, 1) := by decide +kernel
theorem dX11_average_116 : decode cX11_average 116 = .ok (.getfield 11, 3) := by decide +kernel
theorem dX11_average_119 : decode cX11_average 119 = .ok (.sipush 675, 3) := by decide +kernel
theorem dX11_average_12 : decode cX11_average 12 = .ok (.istore 5, 2) := by decide +kernel
theorem dX11_average_122 : decode cX11_average 122 = .ok (.laload, 1) := by decide +kernel
theorem dX11_average_123 : decode cX11_average 123 = .ok (.aload_n 0, 1) := by decide +kernel
theorem dX11_average_124 : decode cX11_average 124 = .ok (.getfield 15, 3) := by decide +kernel
theorem dX11_average_127 : decode cX11_average 127 = .ok (.sipush 675, 3) := by decide +kernel
theorem dX11_average_130 : decode cX11_average 130 = .ok (.laload, 1) := by decide +kernel
theorem dX11_average_131 : decode cX11_average 131 = .ok (.invokevirtual 77, 3) := by decide +kernel
theorem dX11_average_134 : decode cX11_average 134 = .ok (.return_, 1) := by decide +kernel
theorem dX11_average_14 : decode cX11_average 14 = .ok (.aload_n 0, 1) := by decide +kernel
theorem dX11_average_15 : decode cX11_average 15 = .ok (.iload_n 2, 1) := by decide +kernel
theorem dX11_average_16 : decode cX11_average 16 = .ok (.iload_n 3, 1) := by decide +kernel
theorem dX11_average_17 : decode cX11_average 17 = .ok (.iconst 1, 1) := by decide +kernel
theorem dX11_average_18 : decode cX11_average 18 = .ok (.iadd, 1) := by decide +kernel
theorem dX11_average_19 : decode cX11_average 19 = .ok (.iload 4, 2) := by decide +kernel
theorem dX11_average_2 : decode cX11_average 2 = .ok (.iload_n 3, 1) := by decide +kernel
theorem dX11_average_21 : decode cX11_average 21 = .ok (.invokevirtual 71, 3) := by decide +kernel
theorem dX11_average_24 : decode cX11_average 24 = .ok (.istore 6, 2) := by decide +kernel
theorem dX11_average_26 : decode cX11_average 26 = .ok (.aload_n 0, 1) := by decide +kernel
theorem dX11_average_27 : decode cX11_average 27 = .ok (.sipush 672, 3) := by decide +kernel
theorem dX11_average_3 : decode cX11_average 3 = .ok (.iconst 1, 1) := by decide +kernel
theorem dX11_average_30 : decode cX11_average 30 = .ok (.iload 5, 2) := by decide +kernel
theorem dX11_average_32 : decode cX11_average 32 = .ok (.aload_n 0, 1) := by decide +kernel
theorem dX11_average_33 : decode cX11_average 33 = .ok (.getfield 26, 3) := by decide +kernel
theorem dX11_average_36 : decode cX11_average 36 = .ok (.getfield 129, 3) := by decide +kernel
theorem dX11_average_39 : decode cX11_average 39 = .ok (.i2l, 1) := by decide +kernel
theorem dX11_average_4 : decode cX11_average 4 = .ok (.iadd, 1) := by decide +kernel
theorem dX11_average_40 : decode cX11_average 40 = .ok (.lconst 1, 1) := by decide +kernel
theorem dX11_average_41 : decode cX11_average 41 = .ok (.invokevirtual 77, 3) := by decide +kernel
theorem dX11_average_44 : decode cX11_average 44 = .ok (.aload_n 0, 1) := by decide +kernel
theorem dX11_average_45 : decode cX11_average 45 = .ok (.sipush 673, 3) := by decide +kernel
theorem dX11_average_48 : decode cX11_average 48 = .ok (.iload 6, 2) := by decide +kernel
theorem dX11_average_5 : decode cX11_average 5 = .ok (.iload 4, 2) := by decide +kernel
theorem dX11_average_50 : decode cX11_average 50 = .ok (.aload_n 0, 1) := by decide +kernel
theorem dX11_average_51 : decode cX11_average 51 = .ok (.getfield 26, 3) := by decide +kernel
theorem dX11_average_54 : decode cX11_average 54 = .ok (.getfield 132, 3) := by decide +kernel
theorem dX11_average_57 : decode cX11_average 57 = .ok (.aload_n 0, 1) := by decide +kernel
theorem dX11_average_58 : decode cX11_average 58 = .ok (.getfield 26, 3) := by decide +kernel
theorem dX11_average_61 : decode cX11_average 61 = .ok (.getfield 129, 3) := by decide +kernel
theorem dX11_average_64 : decode cX11_average 64 = .ok (.isub, 1) := by decide +kernel
theorem dX11_average_65 : decode cX11_average 65 = .ok (.i2l, 1) := by decide +kernel
theorem dX11_average_66 : decode cX11_average 66 = .ok (.lconst 1, 1) := by decide +kernel
theorem dX11_average_67 : decode cX11_average 67 = .ok (.invokevirtual 77, 3) := by decide +kernel
theorem dX11_average_7 : decode cX11_average 7 = .ok (.iconst 1, 1) := by decide +kernel
theorem dX11_average_70 : decode cX11_average 70 = .ok (.aload_n 0, 1) := by decide +kernel
theorem dX11_average_71 : decode cX11_average 71 = .ok (.iload_n 1, 1) := by decide +kernel
theorem dX11_average_72 : decode cX11_average 72 = .ok (.sipush 672, 3) := by decide +kernel
theorem dX11_average_75 : decode cX11_average 75 = .ok (.sipush 673, 3) := by decide +kernel
theorem dX11_average_78 : decode cX11_average 78 = .ok (.invokevirtual 93, 3) := by decide +kernel
theorem dX11_average_8 : decode cX11_average 8 = .ok (.iadd, 1) := by decide +kernel
theorem dX11_average_81 : decode cX11_average 81 = .ok (.aload_n 0, 1) := by decide +kernel
theorem dX11_average_82 : decode cX11_average 82 = .ok (.sipush 675, 3) := by decide +kernel
theorem dX11_average_85 : decode cX11_average 85 = .ok (.aload_n 0, 1) := by decide +kernel
theorem dX11_average_86 : decode cX11_average 86 = .ok (.getfield 26, 3) := by decide +kernel
theorem dX11_average_89 : decode cX11_average 89 = .ok (.getfield 135, 3) := by decide +kernel
theorem dX11_average_9 : decode cX11_average 9 = .ok (.invokevirtual 71, 3) := by decide +kernel
theorem dX11_average_92 : decode cX11_average 92 = .ok (.i2l, 1) := by decide +kernel
theorem dX11_average_93 : decode cX11_average 93 = .ok (.aload_n 0, 1) := by decide +kernel
theorem dX11_average_94 : decode cX11_average 94 = .ok (.getfield 26, 3) := by decide +kernel
theorem dX11_average_97 : decode cX11_average 97 = .ok (.getfield 138, 3) := by decide +kernel
set_option maxRecDepth 20000 in
theorem ggX11_average_X11_multiply : GoodIn wsX11_average wsX11_multiply := goodIn_r _ [15, 6, 7, 16, 17, 11, 18, 19, 20, 21, 22, 23, 24, 25, 26, 27, 28, 29, 30, 31, 32, 106, 107, 108, 109, 110, 111] rfl (by decide +kernel)
set_option maxRecDepth 20000 in
theorem ggX11_average_X11_plus : GoodIn wsX11_average wsX11_plus := goodIn_r _ [36, 6, 7, 16, 17, 11, 18, 19, 20, 37, 38, 39, 25, 26, 27, 28, 29, 30, 31, 32, 21, 22, 23, 24, 106, 107, 108, 109, 110, 111] rfl (by decide +kernel)
set_option maxRecDepth 20000 in
theorem ggX11_average_X11_reduce : GoodIn wsX11_average wsX11_reduce := goodIn_r _ [28, 6, 7, 29, 30, 31, 32, 106, 107, 108, 109, 110, 111] rfl (by decide +kernel)
set_option maxRecDepth 20000 in
theorem ggX11_average_X11_settle : GoodIn wsX11_average wsX11_settle := goodIn_r _ [79, 80, 81, 41, 42, 47, 82, 83, 19, 46, 1, 43, 84, 50, 51, 52, 53, 54, 55, 85, 86, 87, 88, 89, 90, 91, 21, 22, 23, 11, 24, 6, 7, 8, 9, 10, 12, 13, 14, 15, 16, 17, 18, 20, 25, 26, 27, 28, 29, 30, 31, 32, 56, 57, 58, 59, 60, 61, 62, 63, 33, 34, 35, 36, 37, 38, 39, 92, 93, 94, 95, 96, 97, 98, 99, 100, 101, 102, 64, 65, 66, 67, 68, 69, 70, 71, 72, 73, 74, 75, 76, 77, 78, 103, 104, 105, 0, 2, 3, 4, 5, 40, 44, 45, 48, 49, 106, 107, 108, 109, 110, 111, 112, 113, 114, 115, 116, 117, 118, 119, 120, 121, 122, 123, 124, 125, 126] rfl (by decide +kernel)
set_option maxRecDepth 20000 in
theorem gX11_average_X11_multiply : GoodIn wsX11_average (wsV RX11 77 RX11 yX11_multiply wsX11_multiply) := goodIn_app (goodIn_r _ [12, 13, 14, 11] rfl (by decide +kernel)) ggX11_average_X11_multiply
set_option maxRecDepth 20000 in
theorem gX11_average_X11_plus : GoodIn wsX11_average (wsV RX11 93 RX11 yX11_plus wsX11_plus) := goodIn_app (goodIn_r _ [33, 34, 35, 11] rfl (by decide +kernel)) ggX11_average_X11_plus
set_option maxRecDepth 20000 in
theorem gX11_average_X11_reduce : GoodIn wsX11_average (wsV RX11 141 RX11 yX11_reduce wsX11_reduce) := goodIn_app (goodIn_r _ [25, 26, 27, 11] rfl (by decide +kernel)) ggX11_average_X11_reduce
set_option maxRecDepth 20000 in
theorem gX11_average_X11_settle : GoodIn wsX11_average (wsV RX11 71 RX11 yX11_settle wsX11_settle) := goodIn_app (goodIn_r _ [8, 9, 10, 11] rfl (by decide +kernel)) ggX11_average_X11_settle
theorem hv_X11_multiply : yX11_multiply.cls = RX11 ∧ yX11_multiply.cls ≠ "java/lang/invoke/MethodHandle" ∧ yX11_multiply.cls ≠ "java/lang/invoke/VarHandle" ∧ (parseMethodDescriptor yX11_multiply.desc).map (fun d => d.parameters.length) = some 4 := by decide +kernel
theorem hv_X11_plus : yX11_plus.cls = RX11 ∧ yX11_plus.cls ≠ "java/lang/invoke/MethodHandle" ∧ yX11_plus.cls ≠ "java/lang/invoke/VarHandle" ∧ (parseMethodDescriptor yX11_plus.desc).map (fun d => d.parameters.length) = some 3 := by decide +kernel
set_option maxRecDepth 20000 in
theorem in_X11_average_X11 : ∀ w ∈ wsX110, w ∈ wsX11_average := sub_r [106, 107, 108, 109, 110, 111] rfl
set_option maxRecDepth 20000 in
theorem in_X11_average_X8 : ∀ w ∈ wsX80, w ∈ wsX11_average := sub_r [112, 113, 114, 115, 116, 117, 118] rfl
set_option maxHeartbeats 4000000 in
set_option maxRecDepth 100000 in
theorem s_X11_average (l : Launch) (D : va_G) (T : Nat → ClassId) (ad sa av : Nat → Nat) (ta : Nat) (sz : Nat) (h0 : Nat) (la : Nat) (cl : Nat) (p0 : Nat) (p1 : Nat) (p4 : Nat) (n : Int32) (l9 : Nat → Int32) (n0 : Int32) (c1 : Nat) (c2 : Nat) (c3 : Nat) (c4 : Nat) (c5 : Nat) (c6 : Nat) (c7 : Nat) (f1 : Nat → Int32) (f2 : Nat → Int32) (f3 : Nat → Int32) (f4 : Nat → Int32) (f5 : Nat → Int32) (g0 : Nat → Int64) (g1 : Nat → Int64) (g4 : Nat → Int32) (d : Nat) (x1 : Int32) (x2 : Int32) (x3 : Int32) (x4 : Int32) (hx1 : 0 ≤ x1.toInt ∧ x1.toInt < 676) (hx : 0 ≤ x2.toInt ∧ x2.toInt < 24) (hd : 0 ≤ x3.toInt ∧ x3.toInt ≤ 5) (hsp : 0 ≤ x4.toInt ∧ x4.toInt ≤ x3.toInt) (hok : okC f1 f3 f4 f5) (hxn : x2.toInt < n0.toInt) (hmm : memW (VALW l9 f1 f2 f3 f4 f5) n0 n g0 g1 g4) (hlq : (1 ≤ (l9 4).toInt ∧ (l9 4).toInt ≤ 9) ∧ 1 ≤ (l9 6).toInt ∧ (l9 6).toInt ≤ 9) (hni : x1.toInt ≠ 672 ∧ x1.toInt ≠ 673 ∧ x1.toInt ≠ 675) (hnf0 : x1.toNatClampNeg < 672 → g4 (x1.toNatClampNeg) ≠ n ∧ ¬ rgW x2 (x3 + 1) (x1.toNatClampNeg)) (hdep : x2.toInt + (6 - x3.toInt) < d + 1) (hrec : cS_settle l D T ad sa av ta d) : Met l yX11_average wsX11_average ({ frames := 2 * d + 7, cells := 0, slots := 0, locals := 64 * d + 280 }) (pWk [.ref h0, .int x1, .int x2, .int x3, .int x4] D T [(h0, .inr (8, [.ref la, .ref cl, .ref p0, .ref p1, .ref p4, .int n])), (la, .inr (5, [.int (l9 0), .int (l9 1), .int (l9 2), .int (l9 3), .int (l9 4), .int (l9 5), .int (l9 6)])), (cl, .inr (1, [.int n0, .ref c1, .ref c2, .ref c3, .ref c4, .ref c5, .ref c6, .ref c7])), (c1, .inl (T 0, 24, .inl f1)), (c2, .inl (T 0, 24, .inl f2)), (c3, .inl (T 0, 24, .inl f3)), (c4, .inl (T 0, 24, .inl f4)), (c5, .inl (T 0, 24, .inl f5)), (p0, .inl (T 1, 676, .inr (.inl g0))), (p1, .inl (T 1, 676, .inr (.inl g1))), (p4, .inl (T 0, 672, .inl g4))] sz ad sa av ta) (va_Qv (fun (u : (Nat → Int64) × (Nat → Int64) × (Nat → Int32)) => stW (VALW l9 f1 f2 f3 f4 f5) n0 n (rgA x1 x2 x3) g0 g1 g4 u.1 u.2.1 u.2.2 ∧ (u.1 (x1.toNatClampNeg), u.2.1 (x1.toNatClampNeg)) = avgW l9 (VALW l9 f1 f2 f3 f4 f5) x2 x3 x4 ∧ (x1.toNatClampNeg < 672 → u.2.2 (x1.toNatClampNeg) = g4 (x1.toNatClampNeg))) (bW D (va_A [(h0, .inr (8, [.ref la, .ref cl, .ref p0, .ref p1, .ref p4, .int n])), (la, .inr (5, [.int (l9 0), .int (l9 1), .int (l9 2), .int (l9 3), .int (l9 4), .int (l9 5), .int (l9 6)])), (cl, .inr (1, [.int n0, .ref c1, .ref c2, .ref c3, .ref c4, .ref c5, .ref c6, .ref c7])), (c1, .inl (T 0, 24, .inl f1)), (c2, .inl (T 0, 24, .inl f2)), (c3, .inl (T 0, 24, .inl f3)), (c4, .inl (T 0, 24, .inl f4)), (c5, .inl (T 0, 24, .inl f5)), (p0, .inl (T 1, 676, .inr (.inl g0))), (p1, .inl (T 1, 676, .inr (.inl g1))), (p4, .inl (T 0, 672, .inl g4))] sz) (fun (u : (Nat → Int64) × (Nat → Int64) × (Nat → Int32)) => [(h0, .inr (8, [.ref la, .ref cl, .ref p0, .ref p1, .ref p4, .int n])), (la, .inr (5, [.int (l9 0), .int (l9 1), .int (l9 2), .int (l9 3), .int (l9 4), .int (l9 5), .int (l9 6)])), (cl, .inr (1, [.int n0, .ref c1, .ref c2, .ref c3, .ref c4, .ref c5, .ref c6, .ref c7])), (c1, .inl (T 0, 24, .inl f1)), (c2, .inl (T 0, 24, .inl f2)), (c3, .inl (T 0, 24, .inl f3)), (c4, .inl (T 0, 24, .inl f4)), (c5, .inl (T 0, 24, .inl f5)), (p0, .inl (T 1, 676, .inr (.inl u.1))), (p1, .inl (T 1, 676, .inr (.inl u.2.1))), (p4, .inl (T 0, 672, .inl u.2.2))])) (va_A [(h0, .inr (8, [.ref la, .ref cl, .ref p0, .ref p1, .ref p4, .int n])), (la, .inr (5, [.int (l9 0), .int (l9 1), .int (l9 2), .int (l9 3), .int (l9 4), .int (l9 5), .int (l9 6)])), (cl, .inr (1, [.int n0, .ref c1, .ref c2, .ref c3, .ref c4, .ref c5, .ref c6, .ref c7])), (c1, .inl (T 0, 24, .inl f1)), (c2, .inl (T 0, 24, .inl f2)), (c3, .inl (T 0, 24, .inl f3)), (c4, .inl (T 0, 24, .inl f4)), (c5, .inl (T 0, 24, .inl f5)), (p0, .inl (T 1, 676, .inr (.inl g0))), (p1, .inl (T 1, 676, .inr (.inl g1))), (p4, .inl (T 0, 672, .inl g4))] sz)) 0 0 (va_A [(h0, .inr (8, [.ref la, .ref cl, .ref p0, .ref p1, .ref p4, .int n])), (la, .inr (5, [.int (l9 0), .int (l9 1), .int (l9 2), .int (l9 3), .int (l9 4), .int (l9 5), .int (l9 6)])), (cl, .inr (1, [.int n0, .ref c1, .ref c2, .ref c3, .ref c4, .ref c5, .ref c6, .ref c7])), (c1, .inl (T 0, 24, .inl f1)), (c2, .inl (T 0, 24, .inl f2)), (c3, .inl (T 0, 24, .inl f3)), (c4, .inl (T 0, 24, .inl f4)), (c5, .inl (T 0, 24, .inl f5)), (p0, .inl (T 1, 676, .inr (.inl g0))), (p1, .inl (T 1, 676, .inr (.inl g1))), (p4, .inl (T 0, 672, .inl g4))] sz) := by
  refine Met.ofW (cc := cX11_average) (maxL := 7) (ret := none) (by decide +kernel) rfl ?_
  intro p e s m args below meth c s₁ B hml hv
  obtain ⟨rfl, hsz, hP, hE, hD0, hV⟩ := hv
  have hx := B.exec
  have hb := B.bytes
  have hr := B.returns
  have hts := atoms_spec (ws := wsX11_average) B.pre
  have hown : s.vm.findClass RX11 = some m.cls := findClass_of_methodNamed B.named
  have hlocks := B.notSynchronized
  subst hsz
  have hD := hD0.self (sz := s.heap.size)
  generalize hAe : va_A [(h0, .inr (8, [.ref la, .ref cl, .ref p0, .ref p1, .ref p4, .int n])), (la, .inr (5, [.int (l9 0), .int (l9 1), .int (l9 2), .int (l9 3), .int (l9 4), .int (l9 5), .int (l9 6)])), (cl, .inr (1, [.int n0, .ref c1, .ref c2, .ref c3, .ref c4, .ref c5, .ref c6, .ref c7])), (c1, .inl (T 0, 24, .inl f1)), (c2, .inl (T 0, 24, .inl f2)), (c3, .inl (T 0, 24, .inl f3)), (c4, .inl (T 0, 24, .inl f4)), (c5, .inl (T 0, 24, .inl f5)), (p0, .inl (T 1, 676, .inr (.inl g0))), (p1, .inl (T 1, 676, .inr (.inl g1))), (p4, .inl (T 0, 672, .inl g4))] s.heap.size = A at hD hV ⊢
  have hA : ∀ q : Nat, s.heap.size ≤ q → A q := fun q h => by rw [← hAe]; exact Or.inr h
  have hS : va_S A s.heap s.heap [] := va_S.rf
  have hP : va_P D vwCl [(h0, .inr (8, [.ref la, .ref cl, .ref p0, .ref p1, .ref p4, .int n])), (la, .inr (5, [.int (l9 0), .int (l9 1), .int (l9 2), .int (l9 3), .int (l9 4), .int (l9 5), .int (l9 6)])), (cl, .inr (1, [.int n0, .ref c1, .ref c2, .ref c3, .ref c4, .ref c5, .ref c6, .ref c7])), (c1, .inl (T 0, 24, .inl f1)), (c2, .inl (T 0, 24, .inl f2)), (c3, .inl (T 0, 24, .inl f3)), (c4, .inl (T 0, 24, .inl f4)), (c5, .inl (T 0, 24, .inl f5)), (p0, .inl (T 1, 676, .inr (.inl g0))), (p1, .inl (T 1, 676, .inr (.inl g1))), (p4, .inl (T 0, 672, .inl g4))] s.heap := hP
  have hl := lv_entry ([.ref h0, .int x1, .int x2, .int x3, .int x4]) (n := 7) (Nat.le_of_ble_eq_true rfl)
  rw [lg_entry_eq]
  generalize (lg_sl ([.ref h0, .int x1, .int x2, .int x3, .int x4]) ++ List.replicate (7 - (lg_sl ([.ref h0, .int x1, .int x2, .int x3, .int x4])).length) Slot.unset).toArray = ls at hl ⊢
  have hl : lv_has ls 7 [(0, .ref h0), (1, .int x1), (2, .int x2), (3, .int x3), (4, .int x4)] := hl
  clear hD0
  have hi1 := inc1 (i := x3) (n := 6) (by omega) (by decide +kernel)
  have hi2 := inc1 (i := x4) (n := 6) (by omega) (by decide +kernel)
  have hst : stW (VALW l9 f1 f2 f3 f4 f5) n0 n (rgA x1 x2 x3) g0 g1 g4 g0 g1 g4 := stW_rf hmm
  have hg4 : x1.toNatClampNeg < 672 → g4 (x1.toNatClampNeg) = g4 (x1.toNatClampNeg) := fun _ => rfl
  have hnf : x1.toNatClampNeg < 672 → g4 (x1.toNatClampNeg) ≠ n := fun h9 => (hnf0 h9).1
  refine lv_aload_n hx hb dX11_average_0 rfl (lv_at hl 0 rfl) ?_
  refine lv_iload_n hx hb dX11_average_1 rfl (lv_at hl 2 rfl) ?_
  refine lv_iload_n hx hb dX11_average_2 rfl (lv_at hl 3 rfl) ?_
  refine lv_iconst (v := 1) hx hb dX11_average_3 (by decide +kernel) ?_
  refine lv_iadd hx hb dX11_average_4 ?_
  refine lv_iload hx hb dX11_average_5 (lv_at hl 4 rfl) ?_
  refine lv_iconst (v := 1) hx hb dX11_average_7 (by decide +kernel) ?_
  refine lv_iadd hx hb dX11_average_8 ?_
  have hFc := va_free (wc := [(h0, .inr (8, [.ref la, .ref cl, .ref p0, .ref p1, .ref p4, .int n])), (la, .inr (5, [.int (l9 0), .int (l9 1), .int (l9 2), .int (l9 3), .int (l9 4), .int (l9 5), .int (l9 6)])), (cl, .inr (1, [.int n0, .ref c1, .ref c2, .ref c3, .ref c4, .ref c5, .ref c6, .ref c7])), (c1, .inl (T 0, 24, .inl f1)), (c2, .inl (T 0, 24, .inl f2)), (c3, .inl (T 0, 24, .inl f3)), (c4, .inl (T 0, 24, .inl f4)), (c5, .inl (T 0, 24, .inl f5)), (p0, .inl (T 1, 676, .inr (.inl g0))), (p1, .inl (T 1, 676, .inr (.inl g1))), (p4, .inl (T 0, 672, .inl g4))]) hD hS hA [0, 1, 2, 3, 4, 5, 6, 7, 8, 9, 10] rfl
  refine va_calli (va_runV (As := [.int x2, .int (x3 + 1), .int (x4 + 1)]) (rest := []) ⟨hx, hb, hml, hown, hts⟩ (hrec _ h0 la cl p0 p1 p4 n l9 n0 c1 c2 c3 c4 c5 c6 c7 f1 f2 f3 f4 f5 g0 g1 g4 x2 (x3 + 1) (x4 + 1) (by omega) (by omega) (by omega) hok (by omega) hmm hlq (by omega)) (cwV 3 hts gX11_average_X11_settle rfl rfl rfl hv_X11_settle ⟨(show _ ≤ (2 * d + 7 : Nat) from by (try dsimp only); omega), (show _ ≤ (64 * d + 280 : Nat) from by (try dsimp only); omega)⟩) (pWk_V (q := (RX11, TX11, 6)) (ci := 8) (q0 := 0) hP hE hD hV hS hFc rfl rfl [0, 1, 2, 3, 4, 5, 6, 7, 8, 9, 10] (by decide +kernel) rfl rfl) rfl rfl hl.1 rfl (lv_room (Nat.le_of_ble_eq_true rfl)) dX11_average_9 ⟨Nat.le_of_ble_eq_true rfl, Nat.le_of_ble_eq_true rfl⟩) hS (fun q _ h => hFc q h) hFc (fun r_1 u_2 t H1 locs ht hvm hr_1 hB hz1 hk1 hS => ?_)
  obtain ⟨f_3, f_4, f_5⟩ := u_2
  obtain ⟨hqr_1, hsl_r_1, hfo_r_1, hstr_1⟩ := hr_1
  have hqr_1 : 0 ≤ r_1.toInt ∧ r_1.toInt < 672 := hqr_1
  have hsl_r_1 : r_1.toNatClampNeg = slN x2 (x3 + 1) (x4 + 1) := hsl_r_1
  have hfo_r_1 : f_5 (slN x2 (x3 + 1) (x4 + 1)) = n := hfo_r_1
  have hsr_1 : stW (VALW l9 f1 f2 f3 f4 f5) n0 n (rgW x2 (x3 + 1)) g0 g1 g4 f_3 f_4 f_5 := hstr_1
  have hg9 : x1.toNatClampNeg < 672 → f_5 (x1.toNatClampNeg) = g4 (x1.toNatClampNeg) := fun h9 => (hsr_1.2.2.2 _ h9 (hnf0 h9).2).2.2
  have hg4 : x1.toNatClampNeg < 672 → f_5 (x1.toNatClampNeg) = g4 (x1.toNatClampNeg) := fun h9 => (hg9 h9).trans (hg4 h9)
  have hnf : x1.toNatClampNeg < 672 → f_5 (x1.toNatClampNeg) ≠ n := fun h9 => by rw [hg9 h9]; exact hnf h9
  have hst : stW (VALW l9 f1 f2 f3 f4 f5) n0 n (rgA x1 x2 x3) g0 g1 g4 f_3 f_4 f_5 := hst.tr hsr_1 (fun j9 h9 => Or.inr h9)
  have hmm : memW (VALW l9 f1 f2 f3 f4 f5) n0 n f_3 f_4 f_5 := hst.1
  have hv_r_1 : (f_3 (r_1.toNatClampNeg), f_4 (r_1.toNatClampNeg)) = (VALW l9 f1 f2 f3 f4 f5) x2 (x3 + 1) (x4 + 1) := hst.val (by omega) (by omega) (by first | omega | (rw [ti_0]; omega)) hsl_r_1 hfo_r_1
  have hb_r_1 : 0 ≤ (f_4 (r_1.toNatClampNeg)).toInt := val_nn (VAL_low hlq.1 hlq.2 31 _ _ _) hv_r_1
  obtain ⟨hP1, hD1⟩ := hB
  rw [ht] at hP1
  obtain ⟨hP, hD⟩ := va_repl [(h0, .inr (8, [.ref la, .ref cl, .ref p0, .ref p1, .ref p4, .int n])), (la, .inr (5, [.int (l9 0), .int (l9 1), .int (l9 2), .int (l9 3), .int (l9 4), .int (l9 5), .int (l9 6)])), (cl, .inr (1, [.int n0, .ref c1, .ref c2, .ref c3, .ref c4, .ref c5, .ref c6, .ref c7])), (c1, .inl (T 0, 24, .inl f1)), (c2, .inl (T 0, 24, .inl f2)), (c3, .inl (T 0, 24, .inl f3)), (c4, .inl (T 0, 24, .inl f4)), (c5, .inl (T 0, 24, .inl f5)), (p0, .inl (T 1, 676, .inr (.inl f_3))), (p1, .inl (T 1, 676, .inr (.inl f_4))), (p4, .inl (T 0, 672, .inl f_5))] hP hD [0, 1, 2, 3, 4, 5, 6, 7, 8, 9, 10] [0, 1, 2, 3, 4, 5, 6, 7, 8, 9, 10] rfl (by decide +kernel) rfl rfl rfl hk1 hP1
  clear hP1 hD1 hFc
  generalize H1 = H at hP hS ⊢
  refine lv_istore (lv' := [(5, .int r_1), (0, .ref h0), (1, .int x1), (2, .int x2), (3, .int x3), (4, .int x4)]) hx hb dX11_average_12 hl (by decide +kernel) rfl (fun ls hl => ?_)
  refine lv_aload_n hx hb dX11_average_14 rfl (lv_at hl 1 rfl) ?_
  refine lv_iload_n hx hb dX11_average_15 rfl (lv_at hl 3 rfl) ?_
  refine lv_iload_n hx hb dX11_average_16 rfl (lv_at hl 4 rfl) ?_
  refine lv_iconst (v := 1) hx hb dX11_average_17 (by decide +kernel) ?_
  refine lv_iadd hx hb dX11_average_18 ?_
  refine lv_iload hx hb dX11_average_19 (lv_at hl 5 rfl) ?_
  have hFc := va_free (wc := [(h0, .inr (8, [.ref la, .ref cl, .ref p0, .ref p1, .ref p4, .int n])), (la, .inr (5, [.int (l9 0), .int (l9 1), .int (l9 2), .int (l9 3), .int (l9 4), .int (l9 5), .int (l9 6)])), (cl, .inr (1, [.int n0, .ref c1, .ref c2, .ref c3, .ref c4, .ref c5, .ref c6, .ref c7])), (c1, .inl (T 0, 24, .inl f1)), (c2, .inl (T 0, 24, .inl f2)), (c3, .inl (T 0, 24, .inl f3)), (c4, .inl (T 0, 24, .inl f4)), (c5, .inl (T 0, 24, .inl f5)), (p0, .inl (T 1, 676, .inr (.inl f_3))), (p1, .inl (T 1, 676, .inr (.inl f_4))), (p4, .inl (T 0, 672, .inl f_5))]) hD hS hA [0, 1, 2, 3, 4, 5, 6, 7, 8, 9, 10] rfl
  refine va_calli (va_runV (As := [.int x2, .int (x3 + 1), .int x4]) (rest := []) ⟨hx, hb, hml, hown, hts⟩ (hrec _ h0 la cl p0 p1 p4 n l9 n0 c1 c2 c3 c4 c5 c6 c7 f1 f2 f3 f4 f5 f_3 f_4 f_5 x2 (x3 + 1) x4 (by omega) (by omega) (by omega) hok (by omega) hmm hlq (by omega)) (cwV 3 hts gX11_average_X11_settle rfl rfl rfl hv_X11_settle ⟨(show _ ≤ (2 * d + 7 : Nat) from by (try dsimp only); omega), (show _ ≤ (64 * d + 280 : Nat) from by (try dsimp only); omega)⟩) (pWk_V (q := (RX11, TX11, 6)) (ci := 8) (q0 := 0) hP hE hD hV hS hFc rfl rfl [0, 1, 2, 3, 4, 5, 6, 7, 8, 9, 10] (by decide +kernel) rfl rfl) rfl rfl hl.1 rfl (lv_room (Nat.le_of_ble_eq_true rfl)) dX11_average_21 ⟨Nat.le_of_ble_eq_true rfl, Nat.le_of_ble_eq_true rfl⟩) hS (fun q _ h => hFc q h) hFc (fun r_6 u_7 t H1 locs ht hvm hr_6 hB hz1 hk1 hS => ?_)
  obtain ⟨f_8, f_9, f_10⟩ := u_7
  obtain ⟨hqr_6, hsl_r_6, hfo_r_6, hstr_6⟩ := hr_6
  have hqr_6 : 0 ≤ r_6.toInt ∧ r_6.toInt < 672 := hqr_6
  have hsl_r_6 : r_6.toNatClampNeg = slN x2 (x3 + 1) x4 := hsl_r_6
  have hfo_r_6 : f_10 (slN x2 (x3 + 1) x4) = n := hfo_r_6
  have hsr_6 : stW (VALW l9 f1 f2 f3 f4 f5) n0 n (rgW x2 (x3 + 1)) f_3 f_4 f_5 f_8 f_9 f_10 := hstr_6
  have hg9 : x1.toNatClampNeg < 672 → f_10 (x1.toNatClampNeg) = f_5 (x1.toNatClampNeg) := fun h9 => (hsr_6.2.2.2 _ h9 (hnf0 h9).2).2.2
  have hg4 : x1.toNatClampNeg < 672 → f_10 (x1.toNatClampNeg) = g4 (x1.toNatClampNeg) := fun h9 => (hg9 h9).trans (hg4 h9)
  have hnf : x1.toNatClampNeg < 672 → f_10 (x1.toNatClampNeg) ≠ n := fun h9 => by rw [hg9 h9]; exact hnf h9
  have hst : stW (VALW l9 f1 f2 f3 f4 f5) n0 n (rgA x1 x2 x3) g0 g1 g4 f_8 f_9 f_10 := hst.tr hsr_6 (fun j9 h9 => Or.inr h9)
  have hmm : memW (VALW l9 f1 f2 f3 f4 f5) n0 n f_8 f_9 f_10 := hst.1
  have hfo_r_1 : f_10 (slN x2 (x3 + 1) (x4 + 1)) = n := hsr_6.2.1 _ (slN_lt (by omega) (by omega) (by omega)) hfo_r_1
  have hv_r_1 : (f_8 (r_1.toNatClampNeg), f_9 (r_1.toNatClampNeg)) = (VALW l9 f1 f2 f3 f4 f5) x2 (x3 + 1) (x4 + 1) := hst.val (by omega) (by omega) (by omega) hsl_r_1 hfo_r_1
  have hb_r_1 : 0 ≤ (f_9 (r_1.toNatClampNeg)).toInt := val_nn (VAL_low hlq.1 hlq.2 31 _ _ _) hv_r_1
  have hv_r_6 : (f_8 (r_6.toNatClampNeg), f_9 (r_6.toNatClampNeg)) = (VALW l9 f1 f2 f3 f4 f5) x2 (x3 + 1) x4 := hst.val (by omega) (by omega) (by first | omega | (rw [ti_0]; omega)) hsl_r_6 hfo_r_6
  have hb_r_6 : 0 ≤ (f_9 (r_6.toNatClampNeg)).toInt := val_nn (VAL_low hlq.1 hlq.2 31 _ _ _) hv_r_6
  obtain ⟨hP1, hD1⟩ := hB
  rw [ht] at hP1
  obtain ⟨hP, hD⟩ := va_repl [(h0, .inr (8, [.ref la, .ref cl, .ref p0, .ref p1, .ref p4, .int n])), (la, .inr (5, [.int (l9 0), .int (l9 1), .int (l9 2), .int (l9 3), .int (l9 4), .int (l9 5), .int (l9 6)])), (cl, .inr (1, [.int n0, .ref c1, .ref c2, .ref c3, .ref c4, .ref c5, .ref c6, .ref c7])), (c1, .inl (T 0, 24, .inl f1)), (c2, .inl (T 0, 24, .inl f2)), (c3, .inl (T 0, 24, .inl f3)), (c4, .inl (T 0, 24, .inl f4)), (c5, .inl (T 0, 24, .inl f5)), (p0, .inl (T 1, 676, .inr (.inl f_8))), (p1, .inl (T 1, 676, .inr (.inl f_9))), (p4, .inl (T 0, 672, .inl f_10))] hP hD [0, 1, 2, 3, 4, 5, 6, 7, 8, 9, 10] [0, 1, 2, 3, 4, 5, 6, 7, 8, 9, 10] rfl (by decide +kernel) rfl rfl rfl hk1 hP1
  clear hP1 hD1 hFc
  generalize H1 = H at hP hS ⊢
  refine lv_istore (lv' := [(6, .int r_6), (5, .int r_1), (0, .ref h0), (1, .int x1), (2, .int x2), (3, .int x3), (4, .int x4)]) hx hb dX11_average_24 hl (by decide +kernel) rfl (fun ls hl => ?_)
  refine lv_aload_n hx hb dX11_average_26 rfl (lv_at hl 2 rfl) ?_
  refine lv_sipush (v := 672) hx hb dX11_average_27 (by decide +kernel) ?_
  refine lv_iload hx hb dX11_average_30 (lv_at hl 1 rfl) ?_
  refine lv_aload_n hx hb dX11_average_32 rfl (lv_at hl 2 rfl) ?_
  refine va_get (D := D) (ci := 8) (v := .ref la) (C := RX11) (T := TX11) (N := 6) hx hb hts in_X11_average_X11 hown hE.1 hP 0 rfl rfl 0 (by decide +kernel) (hts (.fieldLink RX11 26 "ClauseBook$Worth" "lattice" "LClauseBook$Lattice;") (List.mem_of_getElem? (i := 1) rfl)) (fun _ h9 => h9) rfl dX11_average_33 ?_
  refine va_get (D := D) (ci := 5) (v := .int (l9 3)) (C := RX8) (T := TX8) (N := 7) hx hb hts in_X11_average_X8 hown hE.1 hP 1 rfl rfl 3 (by decide +kernel) (hts (.fieldLink RX11 129 "ClauseBook$Lattice" "p" "I") (List.mem_of_getElem? (i := 2) rfl)) (fun _ h9 => h9) rfl dX11_average_36 ?_
  refine lv_i2l hx hb dX11_average_39 rfl ?_
  refine lv_lconst (v := 1) hx hb dX11_average_40 (by decide +kernel) ?_
  have hFc := va_free (wc := [(h0, .inr (8, [.ref la, .ref cl, .ref p0, .ref p1, .ref p4, .int n])), (p0, .inl (T 1, 676, .inr (.inl f_8))), (p1, .inl (T 1, 676, .inr (.inl f_9)))]) hD hS hA [0, 8, 9] rfl
  refine va_callv (va_runV (As := [.int 672, .int r_1, .long ((l9 3).toInt64), .long 1]) (rest := []) ⟨hx, hb, hml, hown, hts⟩ (c_X11_multiply l D T _ h0 p0 p1 (.ref la) (.ref cl) (.ref p4) n f_8 f_9 672 r_1 ((l9 3).toInt64) 1 (by first | decide | omega) (by first | decide | omega) (by first | omega | assumption | decide) (by first | omega | assumption | decide)) (cwV 4 hts gX11_average_X11_multiply rfl rfl rfl hv_X11_multiply ⟨(show _ ≤ (2 * d + 7 : Nat) from by (try dsimp only); omega), (show _ ≤ (64 * d + 280 : Nat) from by (try dsimp only); omega)⟩) (pW_V (q := (RX11, TX11, 6)) (ci := 8) (q0 := 0) hP hE hD rfl rfl [0, 8, 9] (by decide +kernel) rfl rfl) rfl rfl hl.1 rfl (lv_room (Nat.le_of_ble_eq_true rfl)) dX11_average_41 ⟨Nat.le_of_ble_eq_true rfl, Nat.le_of_ble_eq_true rfl⟩) hS (fun q _ h => hFc q h) hFc (fun u_12 t H1 locs ht hvm hr_11 hB hz1 hk1 hS => ?_)
  obtain ⟨f_13, f_14⟩ := u_12
  have hrd1 : f_13 = vp_updL f_8 ((672 : Int32).toNatClampNeg) (mulW ((f_8 (r_1.toNatClampNeg)), (f_9 (r_1.toNatClampNeg))) ((l9 3).toInt64) (1 : Int64)).1 := hr_11.1
  have hrd2 : f_14 = vp_updL f_9 ((672 : Int32).toNatClampNeg) (mulW ((f_8 (r_1.toNatClampNeg)), (f_9 (r_1.toNatClampNeg))) ((l9 3).toInt64) (1 : Int64)).2 := hr_11.2
  have hnw9 : (f_13 ((672 : Int32).toNatClampNeg), f_14 ((672 : Int32).toNatClampNeg)) = mulW ((VALW l9 f1 f2 f3 f4 f5) x2 (x3 + 1) (x4 + 1)) ((l9 3).toInt64) (1 : Int64) := by rw [put_at (q := mulW ((f_8 (r_1.toNatClampNeg)), (f_9 (r_1.toNatClampNeg))) ((l9 3).toInt64) (1 : Int64)) hrd1 hrd2, hv_r_1]
  have hp_672 := hnw9
  have hst : stW (VALW l9 f1 f2 f3 f4 f5) n0 n (rgA x1 x2 x3) g0 g1 g4 f_13 f_14 f_10 := by rw [hrd1, hrd2]; exact hst.put (fun h9 => absurd h9 (by decide +kernel))
  have hmm : memW (VALW l9 f1 f2 f3 f4 f5) n0 n f_13 f_14 f_10 := hst.1
  have hv_r_1 : (f_13 (r_1.toNatClampNeg), f_14 (r_1.toNatClampNeg)) = (VALW l9 f1 f2 f3 f4 f5) x2 (x3 + 1) (x4 + 1) := hst.val (by omega) (by omega) (by omega) hsl_r_1 hfo_r_1
  have hb_r_1 : 0 ≤ (f_14 (r_1.toNatClampNeg)).toInt := val_nn (VAL_low hlq.1 hlq.2 31 _ _ _) hv_r_1
  have hv_r_6 : (f_13 (r_6.toNatClampNeg), f_14 (r_6.toNatClampNeg)) = (VALW l9 f1 f2 f3 f4 f5) x2 (x3 + 1) x4 := hst.val (by omega) (by omega) (by omega) hsl_r_6 hfo_r_6
  have hb_r_6 : 0 ≤ (f_14 (r_6.toNatClampNeg)).toInt := val_nn (VAL_low hlq.1 hlq.2 31 _ _ _) hv_r_6
  obtain ⟨hP1, hD1⟩ := hB
  rw [ht] at hP1
  obtain ⟨hP, hD⟩ := va_repl [(h0, .inr (8, [.ref la, .ref cl, .ref p0, .ref p1, .ref p4, .int n])), (la, .inr (5, [.int (l9 0), .int (l9 1), .int (l9 2), .int (l9 3), .int (l9 4), .int (l9 5), .int (l9 6)])), (cl, .inr (1, [.int n0, .ref c1, .ref c2, .ref c3, .ref c4, .ref c5, .ref c6, .ref c7])), (c1, .inl (T 0, 24, .inl f1)), (c2, .inl (T 0, 24, .inl f2)), (c3, .inl (T 0, 24, .inl f3)), (c4, .inl (T 0, 24, .inl f4)), (c5, .inl (T 0, 24, .inl f5)), (p0, .inl (T 1, 676, .inr (.inl f_13))), (p1, .inl (T 1, 676, .inr (.inl f_14))), (p4, .inl (T 0, 672, .inl f_10))] hP hD [0, 8, 9] [0, 8, 9] rfl (by decide +kernel) rfl rfl rfl hk1 hP1
  clear hP1 hD1 hFc
  generalize H1 = H at hP hS ⊢
  refine lv_aload_n hx hb dX11_average_44 rfl (lv_at hl 2 rfl) ?_
  refine lv_sipush (v := 673) hx hb dX11_average_45 (by decide +kernel) ?_
  refine lv_iload hx hb dX11_average_48 (lv_at hl 0 rfl) ?_
  refine lv_aload_n hx hb dX11_average_50 rfl (lv_at hl 2 rfl) ?_
  refine va_get (D := D) (ci := 8) (v := .ref la) (C := RX11) (T := TX11) (N := 6) hx hb hts in_X11_average_X11 hown hE.1 hP 0 rfl rfl 0 (by decide +kernel) (hts (.fieldLink RX11 26 "ClauseBook$Worth" "lattice" "LClauseBook$Lattice;") (List.mem_of_getElem? (i := 1) rfl)) (fun _ h9 => h9) rfl dX11_average_51 ?_
  refine va_get (D := D) (ci := 5) (v := .int (l9 4)) (C := RX8) (T := TX8) (N := 7) hx hb hts in_X11_average_X8 hown hE.1 hP 1 rfl rfl 4 (by decide +kernel) (hts (.fieldLink RX11 132 "ClauseBook$Lattice" "q" "I") (List.mem_of_getElem? (i := 3) rfl)) (fun _ h9 => h9) rfl dX11_average_54 ?_
  refine lv_aload_n hx hb dX11_average_57 rfl (lv_at hl 2 rfl) ?_
  refine va_get (D := D) (ci := 8) (v := .ref la) (C := RX11) (T := TX11) (N := 6) hx hb hts in_X11_average_X11 hown hE.1 hP 0 rfl rfl 0 (by decide +kernel) (hts (.fieldLink RX11 26 "ClauseBook$Worth" "lattice" "LClauseBook$Lattice;") (List.mem_of_getElem? (i := 1) rfl)) (fun _ h9 => h9) rfl dX11_average_58 ?_
  refine va_get (D := D) (ci := 5) (v := .int (l9 3)) (C := RX8) (T := TX8) (N := 7) hx hb hts in_X11_average_X8 hown hE.1 hP 1 rfl rfl 3 (by decide +kernel) (hts (.fieldLink RX11 129 "ClauseBook$Lattice" "p" "I") (List.mem_of_getElem? (i := 2) rfl)) (fun _ h9 => h9) rfl dX11_average_61 ?_
  refine lv_isub hx hb dX11_average_64 ?_
  refine lv_i2l hx hb dX11_average_65 rfl ?_
  refine lv_lconst (v := 1) hx hb dX11_average_66 (by decide +kernel) ?_
  have hFc := va_free (wc := [(h0, .inr (8, [.ref la, .ref cl, .ref p0, .ref p1, .ref p4, .int n])), (p0, .inl (T 1, 676, .inr (.inl f_13))), (p1, .inl (T 1, 676, .inr (.inl f_14)))]) hD hS hA [0, 8, 9] rfl
  refine va_callv (va_runV (As := [.int 673, .int r_6, .long (((l9 4) - (l9 3)).toInt64), .long 1]) (rest := []) ⟨hx, hb, hml, hown, hts⟩ (c_X11_multiply l D T _ h0 p0 p1 (.ref la) (.ref cl) (.ref p4) n f_13 f_14 673 r_6 (((l9 4) - (l9 3)).toInt64) 1 (by first | decide | omega) (by first | decide | omega) (by first | omega | assumption | decide) (by first | omega | assumption | decide)) (cwV 4 hts gX11_average_X11_multiply rfl rfl rfl hv_X11_multiply ⟨(show _ ≤ (2 * d + 7 : Nat) from by (try dsimp only); omega), (show _ ≤ (64 * d + 280 : Nat) from by (try dsimp only); omega)⟩) (pW_V (q := (RX11, TX11, 6)) (ci := 8) (q0 := 0) hP hE hD rfl rfl [0, 8, 9] (by decide +kernel) rfl rfl) rfl rfl hl.1 rfl (lv_room (Nat.le_of_ble_eq_true rfl)) dX11_average_67 ⟨Nat.le_of_ble_eq_true rfl, Nat.le_of_ble_eq_true rfl⟩) hS (fun q _ h => hFc q h) hFc (fun u_16 t H1 locs ht hvm hr_15 hB hz1 hk1 hS => ?_)
  obtain ⟨f_17, f_18⟩ := u_16
  have hrd1 : f_17 = vp_updL f_13 ((673 : Int32).toNatClampNeg) (mulW ((f_13 (r_6.toNatClampNeg)), (f_14 (r_6.toNatClampNeg))) (((l9 4) - (l9 3)).toInt64) (1 : Int64)).1 := hr_15.1
  have hrd2 : f_18 = vp_updL f_14 ((673 : Int32).toNatClampNeg) (mulW ((f_13 (r_6.toNatClampNeg)), (f_14 (r_6.toNatClampNeg))) (((l9 4) - (l9 3)).toInt64) (1 : Int64)).2 := hr_15.2
  have hnw9 : (f_17 ((673 : Int32).toNatClampNeg), f_18 ((673 : Int32).toNatClampNeg)) = mulW ((VALW l9 f1 f2 f3 f4 f5) x2 (x3 + 1) x4) (((l9 4) - (l9 3)).toInt64) (1 : Int64) := by rw [put_at (q := mulW ((f_13 (r_6.toNatClampNeg)), (f_14 (r_6.toNatClampNeg))) (((l9 4) - (l9 3)).toInt64) (1 : Int64)) hrd1 hrd2, hv_r_6]
  have hp_672 : (f_17 ((672 : Int32).toNatClampNeg), f_18 ((672 : Int32).toNatClampNeg)) = mulW ((VALW l9 f1 f2 f3 f4 f5) x2 (x3 + 1) (x4 + 1)) ((l9 3).toInt64) (1 : Int64) := (put_ne (q := mulW ((f_13 (r_6.toNatClampNeg)), (f_14 (r_6.toNatClampNeg))) (((l9 4) - (l9 3)).toInt64) (1 : Int64)) hrd1 hrd2 (by decide +kernel)).trans hp_672
  have hp_673 := hnw9
  have hst : stW (VALW l9 f1 f2 f3 f4 f5) n0 n (rgA x1 x2 x3) g0 g1 g4 f_17 f_18 f_10 := by rw [hrd1, hrd2]; exact hst.put (fun h9 => absurd h9 (by decide +kernel))
  have hmm : memW (VALW l9 f1 f2 f3 f4 f5) n0 n f_17 f_18 f_10 := hst.1
  have hv_r_1 : (f_17 (r_1.toNatClampNeg), f_18 (r_1.toNatClampNeg)) = (VALW l9 f1 f2 f3 f4 f5) x2 (x3 + 1) (x4 + 1) := hst.val (by omega) (by omega) (by omega) hsl_r_1 hfo_r_1
  have hb_r_1 : 0 ≤ (f_18 (r_1.toNatClampNeg)).toInt := val_nn (VAL_low hlq.1 hlq.2 31 _ _ _) hv_r_1
  have hv_r_6 : (f_17 (r_6.toNatClampNeg), f_18 (r_6.toNatClampNeg)) = (VALW l9 f1 f2 f3 f4 f5) x2 (x3 + 1) x4 := hst.val (by omega) (by omega) (by omega) hsl_r_6 hfo_r_6
  have hb_r_6 : 0 ≤ (f_18 (r_6.toNatClampNeg)).toInt := val_nn (VAL_low hlq.1 hlq.2 31 _ _ _) hv_r_6
  obtain ⟨hP1, hD1⟩ := hB
  rw [ht] at hP1
  obtain ⟨hP, hD⟩ := va_repl [(h0, .inr (8, [.ref la, .ref cl, .ref p0, .ref p1, .ref p4, .int n])), (la, .inr (5, [.int (l9 0), .int (l9 1), .int (l9 2), .int (l9 3), .int (l9 4), .int (l9 5), .int (l9 6)])), (cl, .inr (1, [.int n0, .ref c1, .ref c2, .ref c3, .ref c4, .ref c5, .ref c6, .ref c7])), (c1, .inl (T 0, 24, .inl f1)), (c2, .inl (T 0, 24, .inl f2)), (c3, .inl (T 0, 24, .inl f3)), (c4, .inl (T 0, 24, .inl f4)), (c5, .inl (T 0, 24, .inl f5)), (p0, .inl (T 1, 676, .inr (.inl f_17))), (p1, .inl (T 1, 676, .inr (.inl f_18))), (p4, .inl (T 0, 672, .inl f_10))] hP hD [0, 8, 9] [0, 8, 9] rfl (by decide +kernel) rfl rfl rfl hk1 hP1
  clear hP1 hD1 hFc
  generalize H1 = H at hP hS ⊢
  refine lv_aload_n hx hb dX11_average_70 rfl (lv_at hl 2 rfl) ?_
  refine lv_iload_n hx hb dX11_average_71 rfl (lv_at hl 3 rfl) ?_
  refine lv_sipush (v := 672) hx hb dX11_average_72 (by decide +kernel) ?_
  refine lv_sipush (v := 673) hx hb dX11_average_75 (by decide +kernel) ?_
  have hb672 : 0 ≤ (f_18 ((672 : Int32).toNatClampNeg)).toInt := val_nn (mulW_low (VAL_low hlq.1 hlq.2 31 _ _ _) (by decide +kernel)) hp_672
  have hb673 : 0 ≤ (f_18 ((673 : Int32).toNatClampNeg)).toInt := val_nn (mulW_low (VAL_low hlq.1 hlq.2 31 _ _ _) (by decide +kernel)) hp_673
  have hFc := va_free (wc := [(h0, .inr (8, [.ref la, .ref cl, .ref p0, .ref p1, .ref p4, .int n])), (p0, .inl (T 1, 676, .inr (.inl f_17))), (p1, .inl (T 1, 676, .inr (.inl f_18)))]) hD hS hA [0, 8, 9] rfl
  refine va_callv (va_runV (As := [.int x1, .int 672, .int 673]) (rest := []) ⟨hx, hb, hml, hown, hts⟩ (c_X11_plus l D T _ h0 p0 p1 (.ref la) (.ref cl) (.ref p4) n f_17 f_18 x1 672 673 (by first | decide | omega) (by first | decide | omega) (by first | decide | omega) (by first | omega | assumption | decide) (by first | omega | assumption | decide)) (cwV 3 hts gX11_average_X11_plus rfl rfl rfl hv_X11_plus ⟨(show _ ≤ (2 * d + 7 : Nat) from by (try dsimp only); omega), (show _ ≤ (64 * d + 280 : Nat) from by (try dsimp only); omega)⟩) (pW_V (q := (RX11, TX11, 6)) (ci := 8) (q0 := 0) hP hE hD rfl rfl [0, 8, 9] (by decide +kernel) rfl rfl) rfl rfl hl.1 rfl (lv_room (Nat.le_of_ble_eq_true rfl)) dX11_average_78 ⟨Nat.le_of_ble_eq_true rfl, Nat.le_of_ble_eq_true rfl⟩) hS (fun q _ h => hFc q h) hFc (fun u_20 t H1 locs ht hvm hr_19 hB hz1 hk1 hS => ?_)
  obtain ⟨f_21, f_22⟩ := u_20
  have hrd1 : f_21 = vp_updL f_17 (x1.toNatClampNeg) (addW ((f_17 ((672 : Int32).toNatClampNeg)), (f_18 ((672 : Int32).toNatClampNeg))) ((f_17 ((673 : Int32).toNatClampNeg)), (f_18 ((673 : Int32).toNatClampNeg)))).1 := hr_19.1
  have hrd2 : f_22 = vp_updL f_18 (x1.toNatClampNeg) (addW ((f_17 ((672 : Int32).toNatClampNeg)), (f_18 ((672 : Int32).toNatClampNeg))) ((f_17 ((673 : Int32).toNatClampNeg)), (f_18 ((673 : Int32).toNatClampNeg)))).2 := hr_19.2
  have hnw9 : (f_21 (x1.toNatClampNeg), f_22 (x1.toNatClampNeg)) = addW (mulW ((VALW l9 f1 f2 f3 f4 f5) x2 (x3 + 1) (x4 + 1)) ((l9 3).toInt64) (1 : Int64)) (mulW ((VALW l9 f1 f2 f3 f4 f5) x2 (x3 + 1) x4) (((l9 4) - (l9 3)).toInt64) (1 : Int64)) := by rw [put_at (q := addW ((f_17 ((672 : Int32).toNatClampNeg)), (f_18 ((672 : Int32).toNatClampNeg))) ((f_17 ((673 : Int32).toNatClampNeg)), (f_18 ((673 : Int32).toNatClampNeg)))) hrd1 hrd2, hp_672, hp_673]
  have hp_672 : (f_21 ((672 : Int32).toNatClampNeg), f_22 ((672 : Int32).toNatClampNeg)) = mulW ((VALW l9 f1 f2 f3 f4 f5) x2 (x3 + 1) (x4 + 1)) ((l9 3).toInt64) (1 : Int64) := (put_ne (q := addW ((f_17 ((672 : Int32).toNatClampNeg)), (f_18 ((672 : Int32).toNatClampNeg))) ((f_17 ((673 : Int32).toNatClampNeg)), (f_18 ((673 : Int32).toNatClampNeg)))) hrd1 hrd2 (by have h9 : (672 : Int32).toNatClampNeg = 672 := (by decide +kernel); have h8 := tn (x := x1) (by omega); omega)).trans hp_672
  have hp_673 : (f_21 ((673 : Int32).toNatClampNeg), f_22 ((673 : Int32).toNatClampNeg)) = mulW ((VALW l9 f1 f2 f3 f4 f5) x2 (x3 + 1) x4) (((l9 4) - (l9 3)).toInt64) (1 : Int64) := (put_ne (q := addW ((f_17 ((672 : Int32).toNatClampNeg)), (f_18 ((672 : Int32).toNatClampNeg))) ((f_17 ((673 : Int32).toNatClampNeg)), (f_18 ((673 : Int32).toNatClampNeg)))) hrd1 hrd2 (by have h9 : (673 : Int32).toNatClampNeg = 673 := (by decide +kernel); have h8 := tn (x := x1) (by omega); omega)).trans hp_673
  have hp_x1 := hnw9
  have hst : stW (VALW l9 f1 f2 f3 f4 f5) n0 n (rgA x1 x2 x3) g0 g1 g4 f_21 f_22 f_10 := by rw [hrd1, hrd2]; exact hst.put (fun h9 => ⟨Or.inl rfl, hnf h9⟩)
  have hmm : memW (VALW l9 f1 f2 f3 f4 f5) n0 n f_21 f_22 f_10 := hst.1
  have hv_r_1 : (f_21 (r_1.toNatClampNeg), f_22 (r_1.toNatClampNeg)) = (VALW l9 f1 f2 f3 f4 f5) x2 (x3 + 1) (x4 + 1) := hst.val (by omega) (by omega) (by omega) hsl_r_1 hfo_r_1
  have hb_r_1 : 0 ≤ (f_22 (r_1.toNatClampNeg)).toInt := val_nn (VAL_low hlq.1 hlq.2 31 _ _ _) hv_r_1
  have hv_r_6 : (f_21 (r_6.toNatClampNeg), f_22 (r_6.toNatClampNeg)) = (VALW l9 f1 f2 f3 f4 f5) x2 (x3 + 1) x4 := hst.val (by omega) (by omega) (by omega) hsl_r_6 hfo_r_6
  have hb_r_6 : 0 ≤ (f_22 (r_6.toNatClampNeg)).toInt := val_nn (VAL_low hlq.1 hlq.2 31 _ _ _) hv_r_6
  obtain ⟨hP1, hD1⟩ := hB
  rw [ht] at hP1
  obtain ⟨hP, hD⟩ := va_repl [(h0, .inr (8, [.ref la, .ref cl, .ref p0, .ref p1, .ref p4, .int n])), (la, .inr (5, [.int (l9 0), .int (l9 1), .int (l9 2), .int (l9 3), .int (l9 4), .int (l9 5), .int (l9 6)])), (cl, .inr (1, [.int n0, .ref c1, .ref c2, .ref c3, .ref c4, .ref c5, .ref c6, .ref c7])), (c1, .inl (T 0, 24, .inl f1)), (c2, .inl (T 0, 24, .inl f2)), (c3, .inl (T 0, 24, .inl f3)), (c4, .inl (T 0, 24, .inl f4)), (c5, .inl (T 0, 24, .inl f5)), (p0, .inl (T 1, 676, .inr (.inl f_21))), (p1, .inl (T 1, 676, .inr (.inl f_22))), (p4, .inl (T 0, 672, .inl f_10))] hP hD [0, 8, 9] [0, 8, 9] rfl (by decide +kernel) rfl rfl rfl hk1 hP1
  clear hP1 hD1 hFc
  generalize H1 = H at hP hS ⊢
  refine lv_aload_n hx hb dX11_average_81 rfl (lv_at hl 2 rfl) ?_
  refine lv_sipush (v := 675) hx hb dX11_average_82 (by decide +kernel) ?_
  refine lv_aload_n hx hb dX11_average_85 rfl (lv_at hl 2 rfl) ?_
  refine va_get (D := D) (ci := 8) (v := .ref la) (C := RX11) (T := TX11) (N := 6) hx hb hts in_X11_average_X11 hown hE.1 hP 0 rfl rfl 0 (by decide +kernel) (hts (.fieldLink RX11 26 "ClauseBook$Worth" "lattice" "LClauseBook$Lattice;") (List.mem_of_getElem? (i := 1) rfl)) (fun _ h9 => h9) rfl dX11_average_86 ?_
  refine va_get (D := D) (ci := 5) (v := .int (l9 5)) (C := RX8) (T := TX8) (N := 7) hx hb hts in_X11_average_X8 hown hE.1 hP 1 rfl rfl 5 (by decide +kernel) (hts (.fieldLink RX11 135 "ClauseBook$Lattice" "a" "I") (List.mem_of_getElem? (i := 4) rfl)) (fun _ h9 => h9) rfl dX11_average_89 ?_
  refine lv_i2l hx hb dX11_average_92 rfl ?_
  refine lv_aload_n hx hb dX11_average_93 rfl (lv_at hl 2 rfl) ?_
  refine va_get (D := D) (ci := 8) (v := .ref la) (C := RX11) (T := TX11) (N := 6) hx hb hts in_X11_average_X11 hown hE.1 hP 0 rfl rfl 0 (by decide +kernel) (hts (.fieldLink RX11 26 "ClauseBook$Worth" "lattice" "LClauseBook$Lattice;") (List.mem_of_getElem? (i := 1) rfl)) (fun _ h9 => h9) rfl dX11_average_94 ?_
  refine va_get (D := D) (ci := 5) (v := .int (l9 6)) (C := RX8) (T := TX8) (N := 7) hx hb hts in_X11_average_X8 hown hE.1 hP 1 rfl rfl 6 (by decide +kernel) (hts (.fieldLink RX11 138 "ClauseBook$Lattice" "b" "I") (List.mem_of_getElem? (i := 5) rfl)) (fun _ h9 => h9) rfl dX11_average_97 ?_
  refine lv_aload_n hx hb dX11_average_100 rfl (lv_at hl 2 rfl) ?_
  refine va_get (D := D) (ci := 8) (v := .ref la) (C := RX11) (T := TX11) (N := 6) hx hb hts in_X11_average_X11 hown hE.1 hP 0 rfl rfl 0 (by decide +kernel) (hts (.fieldLink RX11 26 "ClauseBook$Worth" "lattice" "LClauseBook$Lattice;") (List.mem_of_getElem? (i := 1) rfl)) (fun _ h9 => h9) rfl dX11_average_101 ?_
  refine va_get (D := D) (ci := 5) (v := .int (l9 4)) (C := RX8) (T := TX8) (N := 7) hx hb hts in_X11_average_X8 hown hE.1 hP 1 rfl rfl 4 (by decide +kernel) (hts (.fieldLink RX11 132 "ClauseBook$Lattice" "q" "I") (List.mem_of_getElem? (i := 3) rfl)) (fun _ h9 => h9) rfl dX11_average_104 ?_
  refine lv_imul hx hb dX11_average_107 ?_
  refine lv_i2l hx hb dX11_average_108 rfl ?_
  have hFc := va_free (wc := [(h0, .inr (8, [.ref la, .ref cl, .ref p0, .ref p1, .ref p4, .int n])), (p0, .inl (T 1, 676, .inr (.inl f_21))), (p1, .inl (T 1, 676, .inr (.inl f_22)))]) hD hS hA [0, 8, 9] rfl
  refine va_callv (va_runV (As := [.int 675, .long ((l9 5).toInt64), .long (((l9 6) * (l9 4)).toInt64)]) (rest := []) ⟨hx, hb, hml, hown, hts⟩ (c_X11_reduce l D T _ h0 p0 p1 (.ref la) (.ref cl) (.ref p4) n f_21 f_22 675 ((l9 5).toInt64) (((l9 6) * (l9 4)).toInt64) (by first | decide | omega) (wt_den hlq.1 hlq.2)) (cwV 3 hts gX11_average_X11_reduce rfl rfl rfl hv_X11_reduce ⟨(show _ ≤ (2 * d + 7 : Nat) from by (try dsimp only); omega), (show _ ≤ (64 * d + 280 : Nat) from by (try dsimp only); omega)⟩) (pW_V (q := (RX11, TX11, 6)) (ci := 8) (q0 := 0) hP hE hD rfl rfl [0, 8, 9] (by decide +kernel) rfl rfl) rfl rfl hl.1 rfl (lv_room (Nat.le_of_ble_eq_true rfl)) dX11_average_109 ⟨Nat.le_of_ble_eq_true rfl, Nat.le_of_ble_eq_true rfl⟩) hS (fun q _ h => hFc q h) hFc (fun u_24 t H1 locs ht hvm hr_23 hB hz1 hk1 hS => ?_)
  obtain ⟨f_25, f_26⟩ := u_24
  have hrd1 : f_25 = vp_updL f_21 ((675 : Int32).toNatClampNeg) (redW ((l9 5).toInt64) (((l9 6) * (l9 4)).toInt64)).1 := hr_23.1
  have hrd2 : f_26 = vp_updL f_22 ((675 : Int32).toNatClampNeg) (redW ((l9 5).toInt64) (((l9 6) * (l9 4)).toInt64)).2 := hr_23.2
  have hnw9 : (f_25 ((675 : Int32).toNatClampNeg), f_26 ((675 : Int32).toNatClampNeg)) = redW ((l9 5).toInt64) (((l9 6) * (l9 4)).toInt64) := by rw [put_at (q := redW ((l9 5).toInt64) (((l9 6) * (l9 4)).toInt64)) hrd1 hrd2]
  have hp_672 : (f_25 ((672 : Int32).toNatClampNeg), f_26 ((672 : Int32).toNatClampNeg)) = mulW ((VALW l9 f1 f2 f3 f4 f5) x2 (x3 + 1) (x4 + 1)) ((l9 3).toInt64) (1 : Int64) := (put_ne (q := redW ((l9 5).toInt64) (((l9 6) * (l9 4)).toInt64)) hrd1 hrd2 (by decide +kernel)).trans hp_672
  have hp_673 : (f_25 ((673 : Int32).toNatClampNeg), f_26 ((673 : Int32).toNatClampNeg)) = mulW ((VALW l9 f1 f2 f3 f4 f5) x2 (x3 + 1) x4) (((l9 4) - (l9 3)).toInt64) (1 : Int64) := (put_ne (q := redW ((l9 5).toInt64) (((l9 6) * (l9 4)).toInt64)) hrd1 hrd2 (by decide +kernel)).trans hp_673
  have hp_x1 : (f_25 (x1.toNatClampNeg), f_26 (x1.toNatClampNeg)) = addW (mulW ((VALW l9 f1 f2 f3 f4 f5) x2 (x3 + 1) (x4 + 1)) ((l9 3).toInt64) (1 : Int64)) (mulW ((VALW l9 f1 f2 f3 f4 f5) x2 (x3 + 1) x4) (((l9 4) - (l9 3)).toInt64) (1 : Int64)) := (put_ne (q := redW ((l9 5).toInt64) (((l9 6) * (l9 4)).toInt64)) hrd1 hrd2 (by have h9 : (675 : Int32).toNatClampNeg = 675 := (by decide +kernel); have h8 := tn (x := x1) (by omega); omega)).trans hp_x1
  have hp_675 := hnw9
  have hst : stW (VALW l9 f1 f2 f3 f4 f5) n0 n (rgA x1 x2 x3) g0 g1 g4 f_25 f_26 f_10 := by rw [hrd1, hrd2]; exact hst.put (fun h9 => absurd h9 (by decide +kernel))
  have hmm : memW (VALW l9 f1 f2 f3 f4 f5) n0 n f_25 f_26 f_10 := hst.1
  have hv_r_1 : (f_25 (r_1.toNatClampNeg), f_26 (r_1.toNatClampNeg)) = (VALW l9 f1 f2 f3 f4 f5) x2 (x3 + 1) (x4 + 1) := hst.val (by omega) (by omega) (by omega) hsl_r_1 hfo_r_1
  have hb_r_1 : 0 ≤ (f_26 (r_1.toNatClampNeg)).toInt := val_nn (VAL_low hlq.1 hlq.2 31 _ _ _) hv_r_1
  have hv_r_6 : (f_25 (r_6.toNatClampNeg), f_26 (r_6.toNatClampNeg)) = (VALW l9 f1 f2 f3 f4 f5) x2 (x3 + 1) x4 := hst.val (by omega) (by omega) (by omega) hsl_r_6 hfo_r_6
  have hb_r_6 : 0 ≤ (f_26 (r_6.toNatClampNeg)).toInt := val_nn (VAL_low hlq.1 hlq.2 31 _ _ _) hv_r_6
  obtain ⟨hP1, hD1⟩ := hB
  rw [ht] at hP1
  obtain ⟨hP, hD⟩ := va_repl [(h0, .inr (8, [.ref la, .ref cl, .ref p0, .ref p1, .ref p4, .int n])), (la, .inr (5, [.int (l9 0), .int (l9 1), .int (l9 2), .int (l9 3), .int (l9 4), .int (l9 5), .int (l9 6)])), (cl, .inr (1, [.int n0, .ref c1, .ref c2, .ref c3, .ref c4, .ref c5, .ref c6, .ref c7])), (c1, .inl (T 0, 24, .inl f1)), (c2, .inl (T 0, 24, .inl f2)), (c3, .inl (T 0, 24, .inl f3)), (c4, .inl (T 0, 24, .inl f4)), (c5, .inl (T 0, 24, .inl f5)), (p0, .inl (T 1, 676, .inr (.inl f_25))), (p1, .inl (T 1, 676, .inr (.inl f_26))), (p4, .inl (T 0, 672, .inl f_10))] hP hD [0, 8, 9] [0, 8, 9] rfl (by decide +kernel) rfl rfl rfl hk1 hP1
  clear hP1 hD1 hFc
  generalize H1 = H at hP hS ⊢
  refine lv_aload_n hx hb dX11_average_112 rfl (lv_at hl 2 rfl) ?_
  refine lv_iload_n hx hb dX11_average_113 rfl (lv_at hl 3 rfl) ?_
  refine lv_iload_n hx hb dX11_average_114 rfl (lv_at hl 3 rfl) ?_
  refine lv_aload_n hx hb dX11_average_115 rfl (lv_at hl 2 rfl) ?_
  refine va_get (D := D) (ci := 8) (v := .ref p0) (C := RX11) (T := TX11) (N := 6) hx hb hts in_X11_average_X11 hown hE.1 hP 0 rfl rfl 2 (by decide +kernel) (hts (.fieldLink RX11 11 "ClauseBook$Worth" "above" "[J") (List.mem_of_getElem? (i := 6) rfl)) (fun _ h9 => h9) rfl dX11_average_116 ?_
  refine lv_sipush (v := 675) hx hb dX11_average_119 (by decide +kernel) ?_
  refine va_lald hx hb hE.1 hP 8 1 rfl rfl (by unfold vp_in; decide) dX11_average_122 ?_
  refine lv_topl (fun z_27 ez_27 => ?_)
  have hwz1 : z_27 = (wtW l9).1 := by rw [ez_27]; exact congrArg Prod.fst hp_675
  refine lv_aload_n hx hb dX11_average_123 rfl (lv_at hl 2 rfl) ?_
  refine va_get (D := D) (ci := 8) (v := .ref p1) (C := RX11) (T := TX11) (N := 6) hx hb hts in_X11_average_X11 hown hE.1 hP 0 rfl rfl 3 (by decide +kernel) (hts (.fieldLink RX11 15 "ClauseBook$Worth" "below" "[J") (List.mem_of_getElem? (i := 7) rfl)) (fun _ h9 => h9) rfl dX11_average_124 ?_
  refine lv_sipush (v := 675) hx hb dX11_average_127 (by decide +kernel) ?_
  refine va_lald hx hb hE.1 hP 9 1 rfl rfl (by unfold vp_in; decide) dX11_average_130 ?_
  refine lv_topl (fun z_28 ez_28 => ?_)
  have hwz2 : z_28 = (wtW l9).2 := by rw [ez_28]; exact congrArg Prod.snd hp_675
  have hw9 : 1 ≤ z_28.toInt := by rw [hwz2]; exact wt_pos hlq.1 hlq.2
  have hbx : 0 ≤ (f_26 (x1.toNatClampNeg)).toInt := val_nn (addW_low (mulW_low (VAL_low hlq.1 hlq.2 31 _ _ _) (by decide +kernel)) (mulW_low (VAL_low hlq.1 hlq.2 31 _ _ _) (by decide +kernel))) hp_x1
  have hFc := va_free (wc := [(h0, .inr (8, [.ref la, .ref cl, .ref p0, .ref p1, .ref p4, .int n])), (p0, .inl (T 1, 676, .inr (.inl f_25))), (p1, .inl (T 1, 676, .inr (.inl f_26)))]) hD hS hA [0, 8, 9] rfl
  refine va_callv (va_runV (As := [.int x1, .int x1, .long z_27, .long z_28]) (rest := []) ⟨hx, hb, hml, hown, hts⟩ (c_X11_multiply l D T _ h0 p0 p1 (.ref la) (.ref cl) (.ref p4) n f_25 f_26 x1 x1 z_27 z_28 (by first | decide | omega) (by first | decide | omega) (by first | omega | assumption | decide) (by first | omega | assumption | decide)) (cwV 4 hts gX11_average_X11_multiply rfl rfl rfl hv_X11_multiply ⟨(show _ ≤ (2 * d + 7 : Nat) from by (try dsimp only); omega), (show _ ≤ (64 * d + 280 : Nat) from by (try dsimp only); omega)⟩) (pW_V (q := (RX11, TX11, 6)) (ci := 8) (q0 := 0) hP hE hD rfl rfl [0, 8, 9] (by decide +kernel) rfl rfl) rfl rfl hl.1 rfl (lv_room (Nat.le_of_ble_eq_true rfl)) dX11_average_131 ⟨Nat.le_of_ble_eq_true rfl, Nat.le_of_ble_eq_true rfl⟩) hS (fun q _ h => hFc q h) hFc (fun u_30 t H1 locs ht hvm hr_29 hB hz1 hk1 hS => ?_)
  obtain ⟨f_31, f_32⟩ := u_30
  have hrd1 : f_31 = vp_updL f_25 (x1.toNatClampNeg) (mulW ((f_25 (x1.toNatClampNeg)), (f_26 (x1.toNatClampNeg))) z_27 z_28).1 := hr_29.1
  have hrd2 : f_32 = vp_updL f_26 (x1.toNatClampNeg) (mulW ((f_25 (x1.toNatClampNeg)), (f_26 (x1.toNatClampNeg))) z_27 z_28).2 := hr_29.2
  have hnw9 : (f_31 (x1.toNatClampNeg), f_32 (x1.toNatClampNeg)) = mulW (addW (mulW ((VALW l9 f1 f2 f3 f4 f5) x2 (x3 + 1) (x4 + 1)) ((l9 3).toInt64) (1 : Int64)) (mulW ((VALW l9 f1 f2 f3 f4 f5) x2 (x3 + 1) x4) (((l9 4) - (l9 3)).toInt64) (1 : Int64))) z_27 z_28 := by rw [put_at (q := mulW ((f_25 (x1.toNatClampNeg)), (f_26 (x1.toNatClampNeg))) z_27 z_28) hrd1 hrd2, hp_x1]
  have hp_672 : (f_31 ((672 : Int32).toNatClampNeg), f_32 ((672 : Int32).toNatClampNeg)) = mulW ((VALW l9 f1 f2 f3 f4 f5) x2 (x3 + 1) (x4 + 1)) ((l9 3).toInt64) (1 : Int64) := (put_ne (q := mulW ((f_25 (x1.toNatClampNeg)), (f_26 (x1.toNatClampNeg))) z_27 z_28) hrd1 hrd2 (by have h9 : (672 : Int32).toNatClampNeg = 672 := (by decide +kernel); have h8 := tn (x := x1) (by omega); omega)).trans hp_672
  have hp_673 : (f_31 ((673 : Int32).toNatClampNeg), f_32 ((673 : Int32).toNatClampNeg)) = mulW ((VALW l9 f1 f2 f3 f4 f5) x2 (x3 + 1) x4) (((l9 4) - (l9 3)).toInt64) (1 : Int64) := (put_ne (q := mulW ((f_25 (x1.toNatClampNeg)), (f_26 (x1.toNatClampNeg))) z_27 z_28) hrd1 hrd2 (by have h9 : (673 : Int32).toNatClampNeg = 673 := (by decide +kernel); have h8 := tn (x := x1) (by omega); omega)).trans hp_673
  have hp_675 : (f_31 ((675 : Int32).toNatClampNeg), f_32 ((675 : Int32).toNatClampNeg)) = redW ((l9 5).toInt64) (((l9 6) * (l9 4)).toInt64) := (put_ne (q := mulW ((f_25 (x1.toNatClampNeg)), (f_26 (x1.toNatClampNeg))) z_27 z_28) hrd1 hrd2 (by have h9 : (675 : Int32).toNatClampNeg = 675 := (by decide +kernel); have h8 := tn (x := x1) (by omega); omega)).trans hp_675
  have hp_x1 := hnw9
  have hst : stW (VALW l9 f1 f2 f3 f4 f5) n0 n (rgA x1 x2 x3) g0 g1 g4 f_31 f_32 f_10 := by rw [hrd1, hrd2]; exact hst.put (fun h9 => ⟨Or.inl rfl, hnf h9⟩)
  have hmm : memW (VALW l9 f1 f2 f3 f4 f5) n0 n f_31 f_32 f_10 := hst.1
  have hv_r_1 : (f_31 (r_1.toNatClampNeg), f_32 (r_1.toNatClampNeg)) = (VALW l9 f1 f2 f3 f4 f5) x2 (x3 + 1) (x4 + 1) := hst.val (by omega) (by omega) (by omega) hsl_r_1 hfo_r_1
  have hb_r_1 : 0 ≤ (f_32 (r_1.toNatClampNeg)).toInt := val_nn (VAL_low hlq.1 hlq.2 31 _ _ _) hv_r_1
  have hv_r_6 : (f_31 (r_6.toNatClampNeg), f_32 (r_6.toNatClampNeg)) = (VALW l9 f1 f2 f3 f4 f5) x2 (x3 + 1) x4 := hst.val (by omega) (by omega) (by omega) hsl_r_6 hfo_r_6
  have hb_r_6 : 0 ≤ (f_32 (r_6.toNatClampNeg)).toInt := val_nn (VAL_low hlq.1 hlq.2 31 _ _ _) hv_r_6
  obtain ⟨hP1, hD1⟩ := hB
  rw [ht] at hP1
  obtain ⟨hP, hD⟩ := va_repl [(h0, .inr (8, [.ref la, .ref cl, .ref p0, .ref p1, .ref p4, .int n])), (la, .inr (5, [.int (l9 0), .int (l9 1), .int (l9 2), .int (l9 3), .int (l9 4), .int (l9 5), .int (l9 6)])), (cl, .inr (1, [.int n0, .ref c1, .ref c2, .ref c3, .ref c4, .ref c5, .ref c6, .ref c7])), (c1, .inl (T 0, 24, .inl f1)), (c2, .inl (T 0, 24, .inl f2)), (c3, .inl (T 0, 24, .inl f3)), (c4, .inl (T 0, 24, .inl f4)), (c5, .inl (T 0, 24, .inl f5)), (p0, .inl (T 1, 676, .inr (.inl f_31))), (p1, .inl (T 1, 676, .inr (.inl f_32))), (p4, .inl (T 0, 672, .inl f_10))] hP hD [0, 8, 9] [0, 8, 9] rfl (by decide +kernel) rfl rfl rfl hk1 hP1
  clear hP1 hD1 hFc
  generalize H1 = H at hP hS ⊢
  exact W.vret hx hb hr (fun t ht hW => ⟨⟨(f_31, f_32, f_10), rfl, ⟨hst, (by rw [hp_x1, hwz1, hwz2]; rfl), hg4⟩, by rw [ht]; exact hP.sub [0, 1, 2, 3, 4, 5, 6, 7, 8, 9, 10] rfl, hD.sub [0, 1, 2, 3, 4, 5, 6, 7, 8, 9, 10] (by decide +kernel) rfl⟩, hS.F ht⟩) hS.2.2 dX11_average_134
