theorem dX12_bagBest_0 : decode cX12_bagBest 0 = .ok (.iload_n 1, 1) := by decide +kernel
theorem dX12_bagBest_1 : decode cX12_bagBest 1 = .ok (.invokestatic 300, 3) := by decide +kernel
theorem dX12_bagBest_100 : decode cX12_bagBest 100 = .ok (.iconst (-1), 1) := by decide +kernel
theorem dX12_bagBest_101 : decode cX12_bagBest 101 = .ok (.if_icmp .eq 17, 3) := by decide +kernel
theorem dX12_bagBest_104 : decode cX12_bagBest 104 = .ok (.aload_n 0, 1) := by decide +kernel
theorem dX12_bagBest_105 : decode cX12_bagBest 105 = .ok (.getfield 43, 3) := by decide +kernel
theorem dX12_bagBest_108 : decode cX12_bagBest 108 = .ok (.iload 8, 2) := by decide +kernel
theorem dX12_bagBest_110 : decode cX12_bagBest 110 = .ok (.iload 5, 2) := by decide +kernel
theorem dX12_bagBest_112 : decode cX12_bagBest 112 = .ok (.invokevirtual 247, 3) := by decide +kernel
theorem dX12_bagBest_115 : decode cX12_bagBest 115 = .ok (.ifCond .le 11, 3) := by decide +kernel
theorem dX12_bagBest_118 : decode cX12_bagBest 118 = .ok (.iload 6, 2) := by decide +kernel
theorem dX12_bagBest_12 : decode cX12_bagBest 12 = .ok (.ifCond .ne 6, 3) := by decide +kernel
theorem dX12_bagBest_120 : decode cX12_bagBest 120 = .ok (.istore 4, 2) := by decide +kernel
theorem dX12_bagBest_122 : decode cX12_bagBest 122 = .ok (.iload 8, 2) := by decide +kernel
theorem dX12_bagBest_124 : decode cX12_bagBest 124 = .ok (.istore 5, 2) := by decide +kernel
theorem dX12_bagBest_126 : decode cX12_bagBest 126 = .ok (.iinc 6 1, 3) := by decide +kernel
theorem dX12_bagBest_129 : decode cX12_bagBest 129 = .ok (.goto (-102), 3) := by decide +kernel
theorem dX12_bagBest_132 : decode cX12_bagBest 132 = .ok (.iload 4, 2) := by decide +kernel
theorem dX12_bagBest_134 : decode cX12_bagBest 134 = .ok (.ireturn, 1) := by decide +kernel
theorem dX12_bagBest_15 : decode cX12_bagBest 15 = .ok (.bipush (-2), 2) := by decide +kernel
theorem dX12_bagBest_17 : decode cX12_bagBest 17 = .ok (.ireturn, 1) := by decide +kernel
theorem dX12_bagBest_18 : decode cX12_bagBest 18 = .ok (.iconst (-1), 1) := by decide +kernel
theorem dX12_bagBest_19 : decode cX12_bagBest 19 = .ok (.istore 4, 2) := by decide +kernel
theorem dX12_bagBest_21 : decode cX12_bagBest 21 = .ok (.iconst 0, 1) := by decide +kernel
theorem dX12_bagBest_22 : decode cX12_bagBest 22 = .ok (.istore 5, 2) := by decide +kernel
theorem dX12_bagBest_24 : decode cX12_bagBest 24 = .ok (.iconst 0, 1) := by decide +kernel
theorem dX12_bagBest_25 : decode cX12_bagBest 25 = .ok (.istore 6, 2) := by decide +kernel
theorem dX12_bagBest_27 : decode cX12_bagBest 27 = .ok (.iload 6, 2) := by decide +kernel
theorem dX12_bagBest_29 : decode cX12_bagBest 29 = .ok (.aload_n 0, 1) := by decide +kernel
theorem dX12_bagBest_30 : decode cX12_bagBest 30 = .ok (.getfield 37, 3) := by decide +kernel
theorem dX12_bagBest_33 : decode cX12_bagBest 33 = .ok (.iload_n 1, 1) := by decide +kernel
theorem dX12_bagBest_34 : decode cX12_bagBest 34 = .ok (.aaload, 1) := by decide +kernel
theorem dX12_bagBest_35 : decode cX12_bagBest 35 = .ok (.getfield 307, 3) := by decide +kernel
theorem dX12_bagBest_38 : decode cX12_bagBest 38 = .ok (.if_icmp .ge 94, 3) := by decide +kernel
theorem dX12_bagBest_4 : decode cX12_bagBest 4 = .ok (.ifCond .eq 11, 3) := by decide +kernel
theorem dX12_bagBest_41 : decode cX12_bagBest 41 = .ok (.aload_n 0, 1) := by decide +kernel
theorem dX12_bagBest_42 : decode cX12_bagBest 42 = .ok (.getfield 37, 3) := by decide +kernel
theorem dX12_bagBest_45 : decode cX12_bagBest 45 = .ok (.iload_n 1, 1) := by decide +kernel
theorem dX12_bagBest_46 : decode cX12_bagBest 46 = .ok (.aaload, 1) := by decide +kernel
theorem dX12_bagBest_47 : decode cX12_bagBest 47 = .ok (.getfield 308, 3) := by decide +kernel
theorem dX12_bagBest_50 : decode cX12_bagBest 50 = .ok (.iload 6, 2) := by decide +kernel
theorem dX12_bagBest_52 : decode cX12_bagBest 52 = .ok (.iaload, 1) := by decide +kernel
theorem dX12_bagBest_53 : decode cX12_bagBest 53 = .ok (.istore 7, 2) := by decide +kernel
theorem dX12_bagBest_55 : decode cX12_bagBest 55 = .ok (.aload_n 0, 1) := by decide +kernel
theorem dX12_bagBest_56 : decode cX12_bagBest 56 = .ok (.getfield 32, 3) := by decide +kernel
theorem dX12_bagBest_59 : decode cX12_bagBest 59 = .ok (.iload 7, 2) := by decide +kernel
theorem dX12_bagBest_61 : decode cX12_bagBest 61 = .ok (.invokevirtual 150, 3) := by decide +kernel
theorem dX12_bagBest_64 : decode cX12_bagBest 64 = .ok (.ifCond .ne 6, 3) := by decide +kernel
theorem dX12_bagBest_67 : decode cX12_bagBest 67 = .ok (.goto 59, 3) := by decide +kernel
theorem dX12_bagBest_7 : decode cX12_bagBest 7 = .ok (.iload_n 2, 1) := by decide +kernel
theorem dX12_bagBest_70 : decode cX12_bagBest 70 = .ok (.aload_n 0, 1) := by decide +kernel
theorem dX12_bagBest_71 : decode cX12_bagBest 71 = .ok (.getfield 43, 3) := by decide +kernel
theorem dX12_bagBest_74 : decode cX12_bagBest 74 = .ok (.iload 7, 2) := by decide +kernel
theorem dX12_bagBest_76 : decode cX12_bagBest 76 = .ok (.iload_n 2, 1) := by decide +kernel
theorem dX12_bagBest_77 : decode cX12_bagBest 77 = .ok (.iload_n 3, 1) := by decide +kernel
theorem dX12_bagBest_78 : decode cX12_bagBest 78 = .ok (.invokevirtual 185, 3) := by decide +kernel
theorem dX12_bagBest_8 : decode cX12_bagBest 8 = .ok (.iload_n 3, 1) := by decide +kernel
theorem dX12_bagBest_81 : decode cX12_bagBest 81 = .ok (.istore 8, 2) := by decide +kernel
theorem dX12_bagBest_83 : decode cX12_bagBest 83 = .ok (.aload_n 0, 1) := by decide +kernel
theorem dX12_bagBest_84 : decode cX12_bagBest 84 = .ok (.getfield 43, 3) := by decide +kernel
theorem dX12_bagBest_87 : decode cX12_bagBest 87 = .ok (.iload 8, 2) := by decide +kernel
theorem dX12_bagBest_89 : decode cX12_bagBest 89 = .ok (.invokevirtual 197, 3) := by decide +kernel
theorem dX12_bagBest_9 : decode cX12_bagBest 9 = .ok (.invokestatic 108, 3) := by decide +kernel
theorem dX12_bagBest_92 : decode cX12_bagBest 92 = .ok (.ifCond .eq 6, 3) := by decide +kernel
theorem dX12_bagBest_95 : decode cX12_bagBest 95 = .ok (.bipush (-5), 2) := by decide +kernel
theorem dX12_bagBest_97 : decode cX12_bagBest 97 = .ok (.ireturn, 1) := by decide +kernel
theorem dX12_bagBest_98 : decode cX12_bagBest 98 = .ok (.iload 4, 2) := by decide +kernel
set_option maxRecDepth 20000 in
theorem ggX12_bagBest_X11_isMuch : GoodIn wsX12_bagBest wsX11_isMuch := goodIn_r _ [106, 59, 154, 155, 156, 157, 158, 159] rfl (by decide +kernel)
set_option maxRecDepth 20000 in
theorem ggX12_bagBest_X11_order : GoodIn wsX12_bagBest wsX11_order := goodIn_r _ [110, 58, 59, 111, 112, 113, 114, 115, 116, 117, 154, 155, 156, 157, 158, 159] rfl (by decide +kernel)
set_option maxRecDepth 40000 in
theorem ggX12_bagBest_X11_settle_0 : GoodIn wsX12_bagBest [.code yX11_settle cX11_settle 8 (some .int)] := goodIn_r _ [29] rfl (by decide +kernel)
set_option maxRecDepth 40000 in
theorem ggX12_bagBest_X11_settle_1 : GoodIn wsX12_bagBest wsX11_settle_r1 := goodIn_r _ [30, 31, 32, 33, 34, 35, 36, 37, 38, 39, 40, 41, 42, 43, 44, 22, 45, 46, 47, 48, 49, 50, 51, 52] rfl (by decide +kernel)
set_option maxRecDepth 40000 in
theorem ggX12_bagBest_X11_settle_2 : GoodIn wsX12_bagBest wsX11_settle_r2 := goodIn_r _ [53, 54, 55, 56, 28, 57, 58, 59, 60, 26, 27, 61, 62, 63, 64, 65, 66, 67, 68, 69, 70, 71, 72, 73] rfl (by decide +kernel)
set_option maxRecDepth 40000 in
theorem ggX12_bagBest_X11_settle_3 : GoodIn wsX12_bagBest wsX11_settle_r3 := goodIn_r _ [74, 75, 76, 77, 78, 79, 80, 81, 82, 83, 84, 85, 86, 87, 88, 89, 90, 91, 92, 93, 94, 95, 96, 97] rfl (by decide +kernel)
set_option maxRecDepth 40000 in
theorem ggX12_bagBest_X11_settle_4 : GoodIn wsX12_bagBest wsX11_settle_r4 := goodIn_r _ [98, 99, 100, 101, 102, 103, 104, 105, 106, 107, 108, 109, 110, 111, 112, 113, 114, 115, 116, 117, 118, 119, 120, 121] rfl (by decide +kernel)
set_option maxRecDepth 40000 in
theorem ggX12_bagBest_X11_settle_5 : GoodIn wsX12_bagBest wsX11_settle_r5 := goodIn_r _ [122, 123, 124, 125, 126, 127, 128, 129, 130] rfl (by decide +kernel)
set_option maxRecDepth 40000 in
theorem ggX12_bagBest_X11_settle_6 : GoodIn wsX12_bagBest wsX110 := goodIn_r _ [154, 155, 156, 157, 158, 159] rfl (by decide +kernel)
set_option maxRecDepth 40000 in
theorem ggX12_bagBest_X11_settle_7 : GoodIn wsX12_bagBest wsX80 := goodIn_r _ [160, 161, 162, 163, 164, 165, 166] rfl (by decide +kernel)
set_option maxRecDepth 40000 in
theorem ggX12_bagBest_X11_settle_8 : GoodIn wsX12_bagBest wsX20 := goodIn_r _ [146, 147, 148, 149, 150, 151, 152, 153] rfl (by decide +kernel)
set_option maxRecDepth 40000 in
theorem ggX12_bagBest_X11_settle : GoodIn wsX12_bagBest wsX11_settle := (goodIn_app ggX12_bagBest_X11_settle_0 (goodIn_app (goodIn_app (goodIn_app (goodIn_app ggX12_bagBest_X11_settle_1 (goodIn_app ggX12_bagBest_X11_settle_2 (goodIn_app ggX12_bagBest_X11_settle_3 (goodIn_app ggX12_bagBest_X11_settle_4 ggX12_bagBest_X11_settle_5)))) ggX12_bagBest_X11_settle_6) ggX12_bagBest_X11_settle_7) ggX12_bagBest_X11_settle_8))
set_option maxRecDepth 20000 in
theorem ggX12_bagBest_X12_isBag : GoodIn wsX12_bagBest wsX12_isBag := goodIn_r _ [9, 10, 11, 8, 12] rfl (by decide +kernel)
set_option maxRecDepth 20000 in
theorem ggX12_bagBest_X12_isSpot : GoodIn wsX12_bagBest wsX12_isSpot := goodIn_r _ [15, 16, 17, 8, 18, 10, 11, 12] rfl (by decide +kernel)
set_option maxRecDepth 20000 in
theorem ggX12_bagBest_X2_has : GoodIn wsX12_bagBest wsX2_has := goodIn_r _ [23, 24, 11, 8, 12, 146, 147, 148, 149, 150, 151, 152, 153] rfl (by decide +kernel)
set_option maxRecDepth 20000 in
theorem gX12_bagBest_X11_isMuch : GoodIn wsX12_bagBest (wsV RX12 197 RX11 yX11_isMuch wsX11_isMuch) := goodIn_app (goodIn_r _ [131, 104, 105, 28] rfl (by decide +kernel)) ggX12_bagBest_X11_isMuch
set_option maxRecDepth 20000 in
theorem gX12_bagBest_X11_order : GoodIn wsX12_bagBest (wsV RX12 247 RX11 yX11_order wsX11_order) := goodIn_app (goodIn_r _ [132, 108, 109, 28] rfl (by decide +kernel)) ggX12_bagBest_X11_order
set_option maxRecDepth 20000 in
theorem gX12_bagBest_X11_settle : GoodIn wsX12_bagBest (wsV RX12 185 RX11 yX11_settle wsX11_settle) := goodIn_app (goodIn_r _ [25, 26, 27, 28] rfl (by decide +kernel)) ggX12_bagBest_X11_settle
set_option maxRecDepth 20000 in
theorem gX12_bagBest_X12_isBag : GoodIn wsX12_bagBest (va_wsS RX12 300 yX12_isBag wsX12_isBag) := goodIn_app (goodIn_of _ (by decide +kernel)) ggX12_bagBest_X12_isBag
set_option maxRecDepth 20000 in
theorem gX12_bagBest_X12_isSpot : GoodIn wsX12_bagBest (va_wsS RX12 108 yX12_isSpot wsX12_isSpot) := goodIn_app (goodIn_of _ (by decide +kernel)) ggX12_bagBest_X12_isSpot
set_option maxRecDepth 20000 in
theorem gX12_bagBest_X2_has : GoodIn wsX12_bagBest (wsV RX12 150 RX2 yX2_has wsX2_has) := goodIn_app (goodIn_r _ [19, 20, 21, 22] rfl (by decide +kernel)) ggX12_bagBest_X2_has
set_option maxRecDepth 20000 in
theorem in_X12_bagBest_X1 : ∀ w ∈ wsX10, w ∈ wsX12_bagBest := sub_r [144, 145] rfl
set_option maxRecDepth 20000 in
theorem in_X12_bagBest_X12 : ∀ w ∈ wsX120, w ∈ wsX12_bagBest := sub_r [133, 134, 135, 136, 137, 138, 139, 140, 141, 142, 143] rfl
set_option maxHeartbeats 4000000 in
set_option maxRecDepth 100000 in
theorem c_X12_bagBest (l : Launch) (D : va_G) (T : Nat → ClassId) (ad sa av : Nat → Nat) (ta : Nat) (sz : Nat) (h0 : Nat) (wo : Nat) (fs0 : List Value) (la : Nat) (cl : Nat) (p0 : Nat) (p1 : Nat) (p4 : Nat) (n : Int32) (l9 : Nat → Int32) (n0 : Int32) (c1 : Nat) (c2 : Nat) (c3 : Nat) (c4 : Nat) (c5 : Nat) (c6 : Nat) (c7 : Nat) (f1 : Nat → Int32) (f2 : Nat → Int32) (f3 : Nat → Int32) (f4 : Nat → Int32) (f5 : Nat → Int32) (g0 : Nat → Int64) (g1 : Nat → Int64) (g4 : Nat → Int32) (h1 : Nat) (t0 : Nat) (t1 : Nat) (t2 : Nat) (a0 : Nat) (a1 : Nat) (a2 : Nat) (bn : Nat → Int32) (bf : Nat → Nat → Int32) (x1 : Int32) (x2 : Int32) (x3 : Int32) (e0_4 : fs0[4]? = some (.ref cl)) (e0_6 : fs0[6]? = some (.ref wo)) (hn0 : 0 ≤ n0.toInt ∧ n0.toInt ≤ 24) (hok : okC f1 f3 f4 f5) (hmm : memW (VALW l9 f1 f2 f3 f4 f5) n0 n g0 g1 g4) (hlq : (1 ≤ (l9 4).toInt ∧ (l9 4).toInt ≤ 9) ∧ 1 ≤ (l9 6).toInt ∧ (l9 6).toInt ≤ 9) (e0_5 : fs0[5]? = some (.ref h1)) (hb0 : 0 ≤ (bn 0).toInt ∧ (bn 0).toInt ≤ 12) (hb1 : 0 ≤ (bn 1).toInt ∧ (bn 1).toInt ≤ 12) (hb2 : 0 ≤ (bn 2).toInt ∧ (bn 2).toInt ≤ 12) : Met l yX12_bagBest wsX12_bagBest ({ frames := 67, cells := 0, slots := 0, locals := 2197 }) (pWk [.ref h0, .int x1, .int x2, .int x3] D T [(h0, .inr (9, fs0)), (wo, .inr (8, [.ref la, .ref cl, .ref p0, .ref p1, .ref p4, .int n])), (la, .inr (5, [.int (l9 0), .int (l9 1), .int (l9 2), .int (l9 3), .int (l9 4), .int (l9 5), .int (l9 6)])), (cl, .inr (1, [.int n0, .ref c1, .ref c2, .ref c3, .ref c4, .ref c5, .ref c6, .ref c7])), (c1, .inl (T 0, 24, .inl f1)), (c2, .inl (T 0, 24, .inl f2)), (c3, .inl (T 0, 24, .inl f3)), (c4, .inl (T 0, 24, .inl f4)), (c5, .inl (T 0, 24, .inl f5)), (p0, .inl (T 1, 676, .inr (.inl g0))), (p1, .inl (T 1, 676, .inr (.inl g1))), (p4, .inl (T 0, 672, .inl g4)), (h1, .inl (T 5, 3, .inr (.inr (.inr (.inr (va_up (va_up (va_up (fun _ => none) 0 (some t0)) 1 (some t1)) 2 (some t2))))))), (t0, .inr (0, [.int (bn 0), .ref a0])), (t1, .inr (0, [.int (bn 1), .ref a1])), (t2, .inr (0, [.int (bn 2), .ref a2])), (a0, .inl (T 0, 12, .inl (bf 0))), (a1, .inl (T 0, 12, .inl (bf 1))), (a2, .inl (T 0, 12, .inl (bf 2)))] sz ad sa av ta) (va_Qi (fun (r : Int32) (u : (Nat → Int64) × (Nat → Int64) × (Nat → Int32)) => bbQ (VALW l9 f1 f2 f3 f4 f5) n0 (bn (x1.toNatClampNeg)) (bf (x1.toNatClampNeg)) (0 ≤ x1.toInt ∧ x1.toInt ≤ 2) x2 x3 r ∧ stW (VALW l9 f1 f2 f3 f4 f5) n0 n (fun _ => True) g0 g1 g4 u.1 u.2.1 u.2.2) (bW D (va_A [(h0, .inr (9, fs0)), (wo, .inr (8, [.ref la, .ref cl, .ref p0, .ref p1, .ref p4, .int n])), (la, .inr (5, [.int (l9 0), .int (l9 1), .int (l9 2), .int (l9 3), .int (l9 4), .int (l9 5), .int (l9 6)])), (cl, .inr (1, [.int n0, .ref c1, .ref c2, .ref c3, .ref c4, .ref c5, .ref c6, .ref c7])), (c1, .inl (T 0, 24, .inl f1)), (c2, .inl (T 0, 24, .inl f2)), (c3, .inl (T 0, 24, .inl f3)), (c4, .inl (T 0, 24, .inl f4)), (c5, .inl (T 0, 24, .inl f5)), (p0, .inl (T 1, 676, .inr (.inl g0))), (p1, .inl (T 1, 676, .inr (.inl g1))), (p4, .inl (T 0, 672, .inl g4)), (h1, .inl (T 5, 3, .inr (.inr (.inr (.inr (va_up (va_up (va_up (fun _ => none) 0 (some t0)) 1 (some t1)) 2 (some t2))))))), (t0, .inr (0, [.int (bn 0), .ref a0])), (t1, .inr (0, [.int (bn 1), .ref a1])), (t2, .inr (0, [.int (bn 2), .ref a2])), (a0, .inl (T 0, 12, .inl (bf 0))), (a1, .inl (T 0, 12, .inl (bf 1))), (a2, .inl (T 0, 12, .inl (bf 2)))] sz) (fun (u : (Nat → Int64) × (Nat → Int64) × (Nat → Int32)) => [(h0, .inr (9, fs0)), (wo, .inr (8, [.ref la, .ref cl, .ref p0, .ref p1, .ref p4, .int n])), (la, .inr (5, [.int (l9 0), .int (l9 1), .int (l9 2), .int (l9 3), .int (l9 4), .int (l9 5), .int (l9 6)])), (cl, .inr (1, [.int n0, .ref c1, .ref c2, .ref c3, .ref c4, .ref c5, .ref c6, .ref c7])), (c1, .inl (T 0, 24, .inl f1)), (c2, .inl (T 0, 24, .inl f2)), (c3, .inl (T 0, 24, .inl f3)), (c4, .inl (T 0, 24, .inl f4)), (c5, .inl (T 0, 24, .inl f5)), (p0, .inl (T 1, 676, .inr (.inl u.1))), (p1, .inl (T 1, 676, .inr (.inl u.2.1))), (p4, .inl (T 0, 672, .inl u.2.2)), (h1, .inl (T 5, 3, .inr (.inr (.inr (.inr (va_up (va_up (va_up (fun _ => none) 0 (some t0)) 1 (some t1)) 2 (some t2))))))), (t0, .inr (0, [.int (bn 0), .ref a0])), (t1, .inr (0, [.int (bn 1), .ref a1])), (t2, .inr (0, [.int (bn 2), .ref a2])), (a0, .inl (T 0, 12, .inl (bf 0))), (a1, .inl (T 0, 12, .inl (bf 1))), (a2, .inl (T 0, 12, .inl (bf 2)))])) (va_A [(h0, .inr (9, fs0)), (wo, .inr (8, [.ref la, .ref cl, .ref p0, .ref p1, .ref p4, .int n])), (la, .inr (5, [.int (l9 0), .int (l9 1), .int (l9 2), .int (l9 3), .int (l9 4), .int (l9 5), .int (l9 6)])), (cl, .inr (1, [.int n0, .ref c1, .ref c2, .ref c3, .ref c4, .ref c5, .ref c6, .ref c7])), (c1, .inl (T 0, 24, .inl f1)), (c2, .inl (T 0, 24, .inl f2)), (c3, .inl (T 0, 24, .inl f3)), (c4, .inl (T 0, 24, .inl f4)), (c5, .inl (T 0, 24, .inl f5)), (p0, .inl (T 1, 676, .inr (.inl g0))), (p1, .inl (T 1, 676, .inr (.inl g1))), (p4, .inl (T 0, 672, .inl g4)), (h1, .inl (T 5, 3, .inr (.inr (.inr (.inr (va_up (va_up (va_up (fun _ => none) 0 (some t0)) 1 (some t1)) 2 (some t2))))))), (t0, .inr (0, [.int (bn 0), .ref a0])), (t1, .inr (0, [.int (bn 1), .ref a1])), (t2, .inr (0, [.int (bn 2), .ref a2])), (a0, .inl (T 0, 12, .inl (bf 0))), (a1, .inl (T 0, 12, .inl (bf 1))), (a2, .inl (T 0, 12, .inl (bf 2)))] sz)) 0 0 (va_A [(h0, .inr (9, fs0)), (wo, .inr (8, [.ref la, .ref cl, .ref p0, .ref p1, .ref p4, .int n])), (la, .inr (5, [.int (l9 0), .int (l9 1), .int (l9 2), .int (l9 3), .int (l9 4), .int (l9 5), .int (l9 6)])), (cl, .inr (1, [.int n0, .ref c1, .ref c2, .ref c3, .ref c4, .ref c5, .ref c6, .ref c7])), (c1, .inl (T 0, 24, .inl f1)), (c2, .inl (T 0, 24, .inl f2)), (c3, .inl (T 0, 24, .inl f3)), (c4, .inl (T 0, 24, .inl f4)), (c5, .inl (T 0, 24, .inl f5)), (p0, .inl (T 1, 676, .inr (.inl g0))), (p1, .inl (T 1, 676, .inr (.inl g1))), (p4, .inl (T 0, 672, .inl g4)), (h1, .inl (T 5, 3, .inr (.inr (.inr (.inr (va_up (va_up (va_up (fun _ => none) 0 (some t0)) 1 (some t1)) 2 (some t2))))))), (t0, .inr (0, [.int (bn 0), .ref a0])), (t1, .inr (0, [.int (bn 1), .ref a1])), (t2, .inr (0, [.int (bn 2), .ref a2])), (a0, .inl (T 0, 12, .inl (bf 0))), (a1, .inl (T 0, 12, .inl (bf 1))), (a2, .inl (T 0, 12, .inl (bf 2)))] sz) := by
  refine Met.ofW (cc := cX12_bagBest) (maxL := 9) (ret := (some .int)) (by decide +kernel) rfl ?_
  intro p e s m args below meth c s₁ B hml hv
  obtain ⟨rfl, hsz, hP, hE, hD0, hV⟩ := hv
  have hx := B.exec
  have hb := B.bytes
  have hr := B.returns
  have hts := atoms_spec (ws := wsX12_bagBest) B.pre
  have hown : s.vm.findClass RX12 = some m.cls := findClass_of_methodNamed B.named
  have hlocks := B.notSynchronized
  subst hsz
  have hD := hD0.self (sz := s.heap.size)
  generalize hAe : va_A [(h0, .inr (9, fs0)), (wo, .inr (8, [.ref la, .ref cl, .ref p0, .ref p1, .ref p4, .int n])), (la, .inr (5, [.int (l9 0), .int (l9 1), .int (l9 2), .int (l9 3), .int (l9 4), .int (l9 5), .int (l9 6)])), (cl, .inr (1, [.int n0, .ref c1, .ref c2, .ref c3, .ref c4, .ref c5, .ref c6, .ref c7])), (c1, .inl (T 0, 24, .inl f1)), (c2, .inl (T 0, 24, .inl f2)), (c3, .inl (T 0, 24, .inl f3)), (c4, .inl (T 0, 24, .inl f4)), (c5, .inl (T 0, 24, .inl f5)), (p0, .inl (T 1, 676, .inr (.inl g0))), (p1, .inl (T 1, 676, .inr (.inl g1))), (p4, .inl (T 0, 672, .inl g4)), (h1, .inl (T 5, 3, .inr (.inr (.inr (.inr (va_up (va_up (va_up (fun _ => none) 0 (some t0)) 1 (some t1)) 2 (some t2))))))), (t0, .inr (0, [.int (bn 0), .ref a0])), (t1, .inr (0, [.int (bn 1), .ref a1])), (t2, .inr (0, [.int (bn 2), .ref a2])), (a0, .inl (T 0, 12, .inl (bf 0))), (a1, .inl (T 0, 12, .inl (bf 1))), (a2, .inl (T 0, 12, .inl (bf 2)))] s.heap.size = A at hD hV ⊢
  have hA : ∀ q : Nat, s.heap.size ≤ q → A q := fun q h => by rw [← hAe]; exact Or.inr h
  have hS : va_S A s.heap s.heap [] := va_S.rf
  have hP : va_P D vwCl [(h0, .inr (9, fs0)), (wo, .inr (8, [.ref la, .ref cl, .ref p0, .ref p1, .ref p4, .int n])), (la, .inr (5, [.int (l9 0), .int (l9 1), .int (l9 2), .int (l9 3), .int (l9 4), .int (l9 5), .int (l9 6)])), (cl, .inr (1, [.int n0, .ref c1, .ref c2, .ref c3, .ref c4, .ref c5, .ref c6, .ref c7])), (c1, .inl (T 0, 24, .inl f1)), (c2, .inl (T 0, 24, .inl f2)), (c3, .inl (T 0, 24, .inl f3)), (c4, .inl (T 0, 24, .inl f4)), (c5, .inl (T 0, 24, .inl f5)), (p0, .inl (T 1, 676, .inr (.inl g0))), (p1, .inl (T 1, 676, .inr (.inl g1))), (p4, .inl (T 0, 672, .inl g4)), (h1, .inl (T 5, 3, .inr (.inr (.inr (.inr (va_up (va_up (va_up (fun _ => none) 0 (some t0)) 1 (some t1)) 2 (some t2))))))), (t0, .inr (0, [.int (bn 0), .ref a0])), (t1, .inr (0, [.int (bn 1), .ref a1])), (t2, .inr (0, [.int (bn 2), .ref a2])), (a0, .inl (T 0, 12, .inl (bf 0))), (a1, .inl (T 0, 12, .inl (bf 1))), (a2, .inl (T 0, 12, .inl (bf 2)))] s.heap := hP
  have hl := lv_entry ([.ref h0, .int x1, .int x2, .int x3]) (n := 9) (Nat.le_of_ble_eq_true rfl)
  rw [lg_entry_eq]
  generalize (lg_sl ([.ref h0, .int x1, .int x2, .int x3]) ++ List.replicate (9 - (lg_sl ([.ref h0, .int x1, .int x2, .int x3])).length) Slot.unset).toArray = ls at hl ⊢
  have hl : lv_has ls 9 [(0, .ref h0), (1, .int x1), (2, .int x2), (3, .int x3)] := hl
  clear hD0
  have hst : stW (VALW l9 f1 f2 f3 f4 f5) n0 n (fun _ => True) g0 g1 g4 g0 g1 g4 := stW_rf hmm
  refine lv_iload_n hx hb dX12_bagBest_0 rfl (lv_at hl 1 rfl) ?_
  refine vp_callSi (W.runS (As := [.int x1]) (rest := []) ⟨hx, hb, hml, hown, hts⟩ (c_X12_isBag l D T x1) (va_cwS 1 hts gX12_bagBest_X12_isBag rfl rfl rfl hs_X12_isBag ⟨Nat.le_of_ble_eq_true rfl, Nat.le_of_ble_eq_true rfl⟩) (pR_S hP hE [] rfl) rfl rfl hl.1 rfl (lv_room (Nat.le_of_ble_eq_true rfl)) dX12_bagBest_1 ⟨Nat.le_of_ble_eq_true rfl, Nat.le_of_ble_eq_true rfl⟩) (fun r_1 hr_1 => ?_)
  rcases bool_post hr_1 with ⟨c_2, rfl⟩ | ⟨c_2, rfl⟩
  · refine lv_if_eq (tgt := 15) hx hb dX12_bagBest_4 (by decide +kernel) (fun c9 => absurd c9 (by decide +kernel)) (fun _ => ?_)
    refine lv_iload_n hx hb dX12_bagBest_7 rfl (lv_at hl 2 rfl) ?_
    refine lv_iload_n hx hb dX12_bagBest_8 rfl (lv_at hl 3 rfl) ?_
    refine vp_callSi (W.runS (As := [.int x2, .int x3]) (rest := []) ⟨hx, hb, hml, hown, hts⟩ (c_X12_isSpot l D T x2 x3) (va_cwS 2 hts gX12_bagBest_X12_isSpot rfl rfl rfl hs_X12_isSpot ⟨Nat.le_of_ble_eq_true rfl, Nat.le_of_ble_eq_true rfl⟩) (pR_S hP hE [] rfl) rfl rfl hl.1 rfl (lv_room (Nat.le_of_ble_eq_true rfl)) dX12_bagBest_9 ⟨Nat.le_of_ble_eq_true rfl, Nat.le_of_ble_eq_true rfl⟩) (fun r_3 hr_3 => ?_)
    rcases bool_post hr_3 with ⟨c_4, rfl⟩ | ⟨c_4, rfl⟩
    · refine lv_if_ne (tgt := 18) hx hb dX12_bagBest_12 (by decide +kernel) (fun _ => ?_) (fun c9 => absurd c9 (by decide +kernel))
      rcases in3 (x := x1) (by omega) with rfl | rfl | rfl
      · refine lv_iconst (v := (-1)) hx hb dX12_bagBest_18 (by decide +kernel) ?_
        refine lv_istore (lv' := [(4, .int (-1)), (0, .ref h0), (1, .int 0), (2, .int x2), (3, .int x3)]) hx hb dX12_bagBest_19 hl (by decide +kernel) rfl (fun ls hl => ?_)
        refine lv_iconst (v := 0) hx hb dX12_bagBest_21 (by decide +kernel) ?_
        refine lv_istore (lv' := [(5, .int 0), (4, .int (-1)), (0, .ref h0), (1, .int 0), (2, .int x2), (3, .int x3)]) hx hb dX12_bagBest_22 hl (by decide +kernel) rfl (fun ls hl => ?_)
        refine lv_iconst (v := 0) hx hb dX12_bagBest_24 (by decide +kernel) ?_
        refine lv_istore (lv' := [(6, .int 0), (5, .int 0), (4, .int (-1)), (0, .ref h0), (1, .int 0), (2, .int x2), (3, .int x3)]) hx hb dX12_bagBest_25 hl (by decide +kernel) rfl (fun ls hl => ?_)
        refine loopW (σ := (Int32) × (Int32) × (Int32) × (Nat → Int64) × (Nat → Int64) × (Nat → Int32)) (fun x9 ls H locs => lv_has ls 9 [(6, .int x9.1), (4, .int x9.2.1), (5, .int x9.2.2.1), (0, .ref h0), (1, .int 0), (2, .int x2), (3, .int x3)] ∧ va_P D vwCl [(h0, .inr (9, fs0)), (wo, .inr (8, [.ref la, .ref cl, .ref p0, .ref p1, .ref p4, .int n])), (la, .inr (5, [.int (l9 0), .int (l9 1), .int (l9 2), .int (l9 3), .int (l9 4), .int (l9 5), .int (l9 6)])), (cl, .inr (1, [.int n0, .ref c1, .ref c2, .ref c3, .ref c4, .ref c5, .ref c6, .ref c7])), (c1, .inl (T 0, 24, .inl f1)), (c2, .inl (T 0, 24, .inl f2)), (c3, .inl (T 0, 24, .inl f3)), (c4, .inl (T 0, 24, .inl f4)), (c5, .inl (T 0, 24, .inl f5)), (p0, .inl (T 1, 676, .inr (.inl x9.2.2.2.1))), (p1, .inl (T 1, 676, .inr (.inl x9.2.2.2.2.1))), (p4, .inl (T 0, 672, .inl x9.2.2.2.2.2)), (h1, .inl (T 5, 3, .inr (.inr (.inr (.inr (va_up (va_up (va_up (fun _ => none) 0 (some t0)) 1 (some t1)) 2 (some t2))))))), (t0, .inr (0, [.int (bn 0), .ref a0])), (t1, .inr (0, [.int (bn 1), .ref a1])), (t2, .inr (0, [.int (bn 2), .ref a2])), (a0, .inl (T 0, 12, .inl (bf 0))), (a1, .inl (T 0, 12, .inl (bf 1))), (a2, .inl (T 0, 12, .inl (bf 2)))] H ∧ va_D A [(h0, .inr (9, fs0)), (wo, .inr (8, [.ref la, .ref cl, .ref p0, .ref p1, .ref p4, .int n])), (la, .inr (5, [.int (l9 0), .int (l9 1), .int (l9 2), .int (l9 3), .int (l9 4), .int (l9 5), .int (l9 6)])), (cl, .inr (1, [.int n0, .ref c1, .ref c2, .ref c3, .ref c4, .ref c5, .ref c6, .ref c7])), (c1, .inl (T 0, 24, .inl f1)), (c2, .inl (T 0, 24, .inl f2)), (c3, .inl (T 0, 24, .inl f3)), (c4, .inl (T 0, 24, .inl f4)), (c5, .inl (T 0, 24, .inl f5)), (p0, .inl (T 1, 676, .inr (.inl x9.2.2.2.1))), (p1, .inl (T 1, 676, .inr (.inl x9.2.2.2.2.1))), (p4, .inl (T 0, 672, .inl x9.2.2.2.2.2)), (h1, .inl (T 5, 3, .inr (.inr (.inr (.inr (va_up (va_up (va_up (fun _ => none) 0 (some t0)) 1 (some t1)) 2 (some t2))))))), (t0, .inr (0, [.int (bn 0), .ref a0])), (t1, .inr (0, [.int (bn 1), .ref a1])), (t2, .inr (0, [.int (bn 2), .ref a2])), (a0, .inl (T 0, 12, .inl (bf 0))), (a1, .inl (T 0, 12, .inl (bf 1))), (a2, .inl (T 0, 12, .inl (bf 2)))] ∧ va_S A s.heap H locs ∧ ((0 ≤ x9.1.toInt ∧ x9.1.toInt ≤ (bn 0).toInt ∧ 0 ≤ x9.2.2.1.toInt ∧ x9.2.2.1.toInt < 672) ∧ (¬ x9.2.1.toInt = -1 → inN n0 ((bf 0) (x9.2.1.toNatClampNeg)) ∧ x9.2.2.1.toNatClampNeg = slN ((bf 0) (x9.2.1.toNatClampNeg)) x2 x3 ∧ x9.2.2.2.2.2 (slN ((bf 0) (x9.2.1.toNatClampNeg)) x2 x3) = n) ∧ stW (VALW l9 f1 f2 f3 f4 f5) n0 n (fun _ => True) g0 g1 g4 x9.2.2.2.1 x9.2.2.2.2.1 x9.2.2.2.2.2 ∧ bbI (VALW l9 f1 f2 f3 f4 f5) n0 (bf 0) x2 x3 x9.1 x9.2.1)) (fun x9 => (13 - x9.1.toInt).toNat) (fun x9 ls H locs hI ih => ?_) (0, (-1), 0, g0, g1, g4) ls ⟨lv_sub hl [0, 2, 1, 3, 4, 5, 6] rfl, hP.sub [0, 1, 2, 3, 4, 5, 6, 7, 8, 9, 10, 11, 12, 13, 14, 15, 16, 17, 18] rfl, hD.sub [0, 1, 2, 3, 4, 5, 6, 7, 8, 9, 10, 11, 12, 13, 14, 15, 16, 17, 18] (by decide +kernel) rfl, hS, ⟨(by (try dsimp only); simp only [ti_0]; omega), (fun h9 => absurd ti_n1 h9), hst, bbI_0⟩⟩
        obtain ⟨ii, be, bs, v0, v1, v4⟩ := x9
        obtain ⟨hl, hP, hD, hS, hinv⟩ := hI
        have hl : lv_has ls 9 [(6, .int ii), (4, .int be), (5, .int bs), (0, .ref h0), (1, .int 0), (2, .int x2), (3, .int x3)] := hl
        have hP : va_P D vwCl [(h0, .inr (9, fs0)), (wo, .inr (8, [.ref la, .ref cl, .ref p0, .ref p1, .ref p4, .int n])), (la, .inr (5, [.int (l9 0), .int (l9 1), .int (l9 2), .int (l9 3), .int (l9 4), .int (l9 5), .int (l9 6)])), (cl, .inr (1, [.int n0, .ref c1, .ref c2, .ref c3, .ref c4, .ref c5, .ref c6, .ref c7])), (c1, .inl (T 0, 24, .inl f1)), (c2, .inl (T 0, 24, .inl f2)), (c3, .inl (T 0, 24, .inl f3)), (c4, .inl (T 0, 24, .inl f4)), (c5, .inl (T 0, 24, .inl f5)), (p0, .inl (T 1, 676, .inr (.inl v0))), (p1, .inl (T 1, 676, .inr (.inl v1))), (p4, .inl (T 0, 672, .inl v4)), (h1, .inl (T 5, 3, .inr (.inr (.inr (.inr (va_up (va_up (va_up (fun _ => none) 0 (some t0)) 1 (some t1)) 2 (some t2))))))), (t0, .inr (0, [.int (bn 0), .ref a0])), (t1, .inr (0, [.int (bn 1), .ref a1])), (t2, .inr (0, [.int (bn 2), .ref a2])), (a0, .inl (T 0, 12, .inl (bf 0))), (a1, .inl (T 0, 12, .inl (bf 1))), (a2, .inl (T 0, 12, .inl (bf 2)))] H := hP
        have hD : va_D A [(h0, .inr (9, fs0)), (wo, .inr (8, [.ref la, .ref cl, .ref p0, .ref p1, .ref p4, .int n])), (la, .inr (5, [.int (l9 0), .int (l9 1), .int (l9 2), .int (l9 3), .int (l9 4), .int (l9 5), .int (l9 6)])), (cl, .inr (1, [.int n0, .ref c1, .ref c2, .ref c3, .ref c4, .ref c5, .ref c6, .ref c7])), (c1, .inl (T 0, 24, .inl f1)), (c2, .inl (T 0, 24, .inl f2)), (c3, .inl (T 0, 24, .inl f3)), (c4, .inl (T 0, 24, .inl f4)), (c5, .inl (T 0, 24, .inl f5)), (p0, .inl (T 1, 676, .inr (.inl v0))), (p1, .inl (T 1, 676, .inr (.inl v1))), (p4, .inl (T 0, 672, .inl v4)), (h1, .inl (T 5, 3, .inr (.inr (.inr (.inr (va_up (va_up (va_up (fun _ => none) 0 (some t0)) 1 (some t1)) 2 (some t2))))))), (t0, .inr (0, [.int (bn 0), .ref a0])), (t1, .inr (0, [.int (bn 1), .ref a1])), (t2, .inr (0, [.int (bn 2), .ref a2])), (a0, .inl (T 0, 12, .inl (bf 0))), (a1, .inl (T 0, 12, .inl (bf 1))), (a2, .inl (T 0, 12, .inl (bf 2)))] := hD
        have hinv : (0 ≤ ii.toInt ∧ ii.toInt ≤ (bn 0).toInt ∧ 0 ≤ bs.toInt ∧ bs.toInt < 672) ∧ (¬ be.toInt = -1 → inN n0 ((bf 0) (be.toNatClampNeg)) ∧ bs.toNatClampNeg = slN ((bf 0) (be.toNatClampNeg)) x2 x3 ∧ v4 (slN ((bf 0) (be.toNatClampNeg)) x2 x3) = n) ∧ stW (VALW l9 f1 f2 f3 f4 f5) n0 n (fun _ => True) g0 g1 g4 v0 v1 v4 ∧ bbI (VALW l9 f1 f2 f3 f4 f5) n0 (bf 0) x2 x3 ii be := hinv
        obtain ⟨hrg9, hfb, hst, hbb⟩ := hinv
        have hbb : bbI (VALW l9 f1 f2 f3 f4 f5) n0 (bf 0) x2 x3 ii be := hbb
        have hmm : memW (VALW l9 f1 f2 f3 f4 f5) n0 n v0 v1 v4 := hst.1
        refine lv_iload hx hb dX12_bagBest_27 (lv_at hl 0 rfl) ?_
        refine lv_aload_n hx hb dX12_bagBest_29 rfl (lv_at hl 3 rfl) ?_
        refine va_get (D := D) (ci := 9) (v := .ref h1) (C := RX12) (T := TX12) (N := 11) hx hb hts in_X12_bagBest_X12 hown hE.1 hP 0 rfl rfl 5 (by decide +kernel) (hts (.fieldLink RX12 37 "ClauseBook" "bags" "[LClauseBook$Bag;") (List.mem_of_getElem? (i := 1) rfl)) (fun _ h9 => h9) e0_5 dX12_bagBest_30 ?_
        refine lv_iload_n hx hb dX12_bagBest_33 rfl (lv_at hl 4 rfl) ?_
        refine va_aldq hx hb hE.1 hP 12 5 rfl rfl (by unfold vp_in; decide) dX12_bagBest_34 ?_
        refine W.eq (g2 := F0 m 35 ls [.ref t0, .int ii]) rfl ?_
        refine va_get (D := D) (ci := 0) (v := .int (bn 0)) (C := RX1) (T := TX1) (N := 2) hx hb hts in_X12_bagBest_X1 hown hE.1 hP 13 rfl rfl 0 (by decide +kernel) (hts (.fieldLink RX12 307 "ClauseBook$Bag" "size" "I") (List.mem_of_getElem? (i := 2) rfl)) (fun _ h9 => h9) rfl dX12_bagBest_35 ?_
        refine lv_icmp_ge (tgt := 132) hx hb dX12_bagBest_38 (by decide +kernel) (fun c_5 => ?_) (fun c_5 => ?_)
        · rw [fa_le] at c_5
          refine lv_iload hx hb dX12_bagBest_132 (lv_at hl 1 rfl) ?_
          exact W.iret hx hb hr (fun t ht hW => ⟨⟨_, (v0, v1, v4), rfl, ⟨(show bbQ (VALW l9 f1 f2 f3 f4 f5) n0 (bn 0) (bf 0) (0 ≤ (0 : Int32).toInt ∧ (0 : Int32).toInt ≤ 2) x2 x3 be from (bb_of ⟨(by decide +kernel), ⟨(by omega), (by omega)⟩, (by omega), (by omega)⟩ (bb_end hbb (by omega) (by omega)))), hst⟩, by rw [ht]; exact hP.sub [0, 1, 2, 3, 4, 5, 6, 7, 8, 9, 10, 11, 12, 13, 14, 15, 16, 17, 18] rfl, hD.sub [0, 1, 2, 3, 4, 5, 6, 7, 8, 9, 10, 11, 12, 13, 14, 15, 16, 17, 18] (by decide +kernel) rfl⟩, hS.F ht⟩) hS.2.2 dX12_bagBest_134
        · rw [fa_le] at c_5
          refine lv_aload_n hx hb dX12_bagBest_41 rfl (lv_at hl 3 rfl) ?_
          refine va_get (D := D) (ci := 9) (v := .ref h1) (C := RX12) (T := TX12) (N := 11) hx hb hts in_X12_bagBest_X12 hown hE.1 hP 0 rfl rfl 5 (by decide +kernel) (hts (.fieldLink RX12 37 "ClauseBook" "bags" "[LClauseBook$Bag;") (List.mem_of_getElem? (i := 1) rfl)) (fun _ h9 => h9) e0_5 dX12_bagBest_42 ?_
          refine lv_iload_n hx hb dX12_bagBest_45 rfl (lv_at hl 4 rfl) ?_
          refine va_aldq hx hb hE.1 hP 12 5 rfl rfl (by unfold vp_in; decide) dX12_bagBest_46 ?_
          refine W.eq (g2 := F0 m 47 ls [.ref t0]) rfl ?_
          refine va_get (D := D) (ci := 0) (v := .ref a0) (C := RX1) (T := TX1) (N := 2) hx hb hts in_X12_bagBest_X1 hown hE.1 hP 13 rfl rfl 1 (by decide +kernel) (hts (.fieldLink RX12 308 "ClauseBook$Bag" "numbers" "[I") (List.mem_of_getElem? (i := 3) rfl)) (fun _ h9 => h9) rfl dX12_bagBest_47 ?_
          refine lv_iload hx hb dX12_bagBest_50 (lv_at hl 0 rfl) ?_
          refine va_iald hx hb hE.1 hP 16 0 rfl rfl (by rw [vp_in_iff]; first | omega | (subst_vars; omega)) dX12_bagBest_52 ?_
          refine lv_topi (fun z_6 ez_6 => ?_)
          refine lv_istore (lv' := [(7, .int z_6), (6, .int ii), (4, .int be), (5, .int bs), (0, .ref h0), (1, .int 0), (2, .int x2), (3, .int x3)]) hx hb dX12_bagBest_53 hl (by decide +kernel) rfl (fun ls hl => ?_)
          refine lv_aload_n hx hb dX12_bagBest_55 rfl (lv_at hl 4 rfl) ?_
          refine va_get (D := D) (ci := 9) (v := .ref cl) (C := RX12) (T := TX12) (N := 11) hx hb hts in_X12_bagBest_X12 hown hE.1 hP 0 rfl rfl 4 (by decide +kernel) (hts (.fieldLink RX12 32 "ClauseBook" "clauses" "LClauseBook$Clauses;") (List.mem_of_getElem? (i := 4) rfl)) (fun _ h9 => h9) e0_4 dX12_bagBest_56 ?_
          refine lv_iload hx hb dX12_bagBest_59 (lv_at hl 0 rfl) ?_
          refine vp_callSi (W.runV (As := [.int z_6]) (rest := []) ⟨hx, hb, hml, hown, hts⟩ (c_X2_has l D T cl [.int n0, .ref c1, .ref c2, .ref c3, .ref c4, .ref c5, .ref c6, .ref c7] z_6 n0 rfl (by omega)) (cwV 1 hts gX12_bagBest_X2_has rfl rfl rfl hv_X2_has ⟨Nat.le_of_ble_eq_true rfl, Nat.le_of_ble_eq_true rfl⟩) (pR_V (q := (RX2, TX2, 8)) (ci := 1) (q0 := 3) hP hE rfl rfl [3] rfl) rfl rfl hl.1 rfl (lv_room (Nat.le_of_ble_eq_true rfl)) dX12_bagBest_61 ⟨Nat.le_of_ble_eq_true rfl, Nat.le_of_ble_eq_true rfl⟩) (fun r_7 hr_7 => ?_)
          rcases bool_post hr_7 with ⟨c_8, rfl⟩ | ⟨c_8, rfl⟩
          · refine lv_if_ne (tgt := 70) hx hb dX12_bagBest_64 (by decide +kernel) (fun _ => ?_) (fun c9 => absurd c9 (by decide +kernel))
            refine lv_aload_n hx hb dX12_bagBest_70 rfl (lv_at hl 4 rfl) ?_
            refine va_get (D := D) (ci := 9) (v := .ref wo) (C := RX12) (T := TX12) (N := 11) hx hb hts in_X12_bagBest_X12 hown hE.1 hP 0 rfl rfl 6 (by decide +kernel) (hts (.fieldLink RX12 43 "ClauseBook" "worth" "LClauseBook$Worth;") (List.mem_of_getElem? (i := 5) rfl)) (fun _ h9 => h9) e0_6 dX12_bagBest_71 ?_
            refine lv_iload hx hb dX12_bagBest_74 (lv_at hl 0 rfl) ?_
            refine lv_iload_n hx hb dX12_bagBest_76 rfl (lv_at hl 6 rfl) ?_
            refine lv_iload_n hx hb dX12_bagBest_77 rfl (lv_at hl 7 rfl) ?_
            have hFc := va_free (wc := [(wo, .inr (8, [.ref la, .ref cl, .ref p0, .ref p1, .ref p4, .int n])), (la, .inr (5, [.int (l9 0), .int (l9 1), .int (l9 2), .int (l9 3), .int (l9 4), .int (l9 5), .int (l9 6)])), (cl, .inr (1, [.int n0, .ref c1, .ref c2, .ref c3, .ref c4, .ref c5, .ref c6, .ref c7])), (c1, .inl (T 0, 24, .inl f1)), (c2, .inl (T 0, 24, .inl f2)), (c3, .inl (T 0, 24, .inl f3)), (c4, .inl (T 0, 24, .inl f4)), (c5, .inl (T 0, 24, .inl f5)), (p0, .inl (T 1, 676, .inr (.inl v0))), (p1, .inl (T 1, 676, .inr (.inl v1))), (p4, .inl (T 0, 672, .inl v4))]) hD hS hA [1, 2, 3, 4, 5, 6, 7, 8, 9, 10, 11] rfl
            refine va_calli (va_runV (As := [.int z_6, .int x2, .int x3]) (rest := []) ⟨hx, hb, hml, hown, hts⟩ (cS_all l D T ad sa av ta 30 _ wo la cl p0 p1 p4 n l9 n0 c1 c2 c3 c4 c5 c6 c7 f1 f2 f3 f4 f5 v0 v1 v4 z_6 x2 x3 (by omega) (by omega) (by omega) hok (by omega) hmm hlq (by omega)) (cwV 3 hts gX12_bagBest_X11_settle rfl rfl rfl hv_X11_settle ⟨Nat.le_of_ble_eq_true rfl, Nat.le_of_ble_eq_true rfl⟩) (pWk_V (q := (RX11, TX11, 6)) (ci := 8) (q0 := 1) hP hE hD hV hS hFc rfl rfl [1, 2, 3, 4, 5, 6, 7, 8, 9, 10, 11] (by decide +kernel) rfl rfl) rfl rfl hl.1 rfl (lv_room (Nat.le_of_ble_eq_true rfl)) dX12_bagBest_78 ⟨Nat.le_of_ble_eq_true rfl, Nat.le_of_ble_eq_true rfl⟩) hS (fun q _ h => hFc q h) hFc (fun r_9 u_10 t H1 locs ht hvm hr_9 hB hz1 hk1 hS => ?_)
            obtain ⟨f_11, f_12, f_13⟩ := u_10
            obtain ⟨hqr_9, hsl_r_9, hfo_r_9, hstr_9⟩ := hr_9
            have hqr_9 : 0 ≤ r_9.toInt ∧ r_9.toInt < 672 := hqr_9
            have hsl_r_9 : r_9.toNatClampNeg = slN z_6 x2 x3 := hsl_r_9
            have hfo_r_9 : f_13 (slN z_6 x2 x3) = n := hfo_r_9
            have hsr_9 : stW (VALW l9 f1 f2 f3 f4 f5) n0 n (rgW z_6 x2) v0 v1 v4 f_11 f_12 f_13 := hstr_9
            have hst : stW (VALW l9 f1 f2 f3 f4 f5) n0 n (fun _ => True) g0 g1 g4 f_11 f_12 f_13 := hst.tr hsr_9 (fun _ _ => trivial)
            have hmm : memW (VALW l9 f1 f2 f3 f4 f5) n0 n f_11 f_12 f_13 := hst.1
            have hv_r_9 : (f_11 (r_9.toNatClampNeg), f_12 (r_9.toNatClampNeg)) = (VALW l9 f1 f2 f3 f4 f5) z_6 x2 x3 := hst.val (by omega) (by omega) (by first | (rw [ti_0]; omega) | omega) hsl_r_9 hfo_r_9
            have hb_r_9 : 0 ≤ (f_12 (r_9.toNatClampNeg)).toInt := val_nn (VAL_low hlq.1 hlq.2 31 _ _ _) hv_r_9
            obtain ⟨hP1, hD1⟩ := hB
            rw [ht] at hP1
            obtain ⟨hP, hD⟩ := va_repl [(h0, .inr (9, fs0)), (wo, .inr (8, [.ref la, .ref cl, .ref p0, .ref p1, .ref p4, .int n])), (la, .inr (5, [.int (l9 0), .int (l9 1), .int (l9 2), .int (l9 3), .int (l9 4), .int (l9 5), .int (l9 6)])), (cl, .inr (1, [.int n0, .ref c1, .ref c2, .ref c3, .ref c4, .ref c5, .ref c6, .ref c7])), (c1, .inl (T 0, 24, .inl f1)), (c2, .inl (T 0, 24, .inl f2)), (c3, .inl (T 0, 24, .inl f3)), (c4, .inl (T 0, 24, .inl f4)), (c5, .inl (T 0, 24, .inl f5)), (p0, .inl (T 1, 676, .inr (.inl f_11))), (p1, .inl (T 1, 676, .inr (.inl f_12))), (p4, .inl (T 0, 672, .inl f_13)), (h1, .inl (T 5, 3, .inr (.inr (.inr (.inr (va_up (va_up (va_up (fun _ => none) 0 (some t0)) 1 (some t1)) 2 (some t2))))))), (t0, .inr (0, [.int (bn 0), .ref a0])), (t1, .inr (0, [.int (bn 1), .ref a1])), (t2, .inr (0, [.int (bn 2), .ref a2])), (a0, .inl (T 0, 12, .inl (bf 0))), (a1, .inl (T 0, 12, .inl (bf 1))), (a2, .inl (T 0, 12, .inl (bf 2)))] hP hD [1, 2, 3, 4, 5, 6, 7, 8, 9, 10, 11] [1, 2, 3, 4, 5, 6, 7, 8, 9, 10, 11] rfl (by decide +kernel) rfl rfl rfl hk1 hP1
            clear hP1 hD1 hFc
            generalize H1 = H at hP hS ⊢
            refine lv_istore (lv' := [(8, .int r_9), (7, .int z_6), (6, .int ii), (4, .int be), (5, .int bs), (0, .ref h0), (1, .int 0), (2, .int x2), (3, .int x3)]) hx hb dX12_bagBest_81 hl (by decide +kernel) rfl (fun ls hl => ?_)
            have hin9 : inN n0 ((bf 0) (ii.toNatClampNeg)) := by rw [← ez_6]; omega
            have hsl9 : r_9.toNatClampNeg = slN ((bf 0) (ii.toNatClampNeg)) x2 x3 := by rw [← ez_6]; exact hsl_r_9
            have hfo9 : f_13 (slN ((bf 0) (ii.toNatClampNeg)) x2 x3) = n := by rw [← ez_6]; exact hfo_r_9
            have hfk9 : ¬ be.toInt = -1 → f_13 (slN ((bf 0) (be.toNatClampNeg)) x2 x3) = n := fun h9 => hsr_9.2.1 _ (slN_lt (by have h8 := (hfb h9).1; omega) (by omega) (by omega)) (hfb h9).2.2
            refine lv_aload_n hx hb dX12_bagBest_83 rfl (lv_at hl 5 rfl) ?_
            refine va_get (D := D) (ci := 9) (v := .ref wo) (C := RX12) (T := TX12) (N := 11) hx hb hts in_X12_bagBest_X12 hown hE.1 hP 0 rfl rfl 6 (by decide +kernel) (hts (.fieldLink RX12 43 "ClauseBook" "worth" "LClauseBook$Worth;") (List.mem_of_getElem? (i := 5) rfl)) (fun _ h9 => h9) e0_6 dX12_bagBest_84 ?_
            refine lv_iload hx hb dX12_bagBest_87 (lv_at hl 0 rfl) ?_
            refine vp_callSi (W.runV (As := [.int r_9]) (rest := []) ⟨hx, hb, hml, hown, hts⟩ (c_X11_isMuch l D T wo [.ref la, .ref cl, .ref p0, .ref p1, .ref p4, .int n] p1 f_12 r_9 rfl (by first | decide | omega)) (cwV 1 hts gX12_bagBest_X11_isMuch rfl rfl rfl hv_X11_isMuch ⟨Nat.le_of_ble_eq_true rfl, Nat.le_of_ble_eq_true rfl⟩) (pR_V (q := (RX11, TX11, 6)) (ci := 8) (q0 := 1) hP hE rfl rfl [1, 10] rfl) rfl rfl hl.1 rfl (lv_room (Nat.le_of_ble_eq_true rfl)) dX12_bagBest_89 ⟨Nat.le_of_ble_eq_true rfl, Nat.le_of_ble_eq_true rfl⟩) (fun r_14 hr_14 => ?_)
            rcases bool_post hr_14 with ⟨c_15, rfl⟩ | ⟨c_15, rfl⟩
            · refine lv_if_eq (tgt := 98) hx hb dX12_bagBest_92 (by decide +kernel) (fun c9 => absurd c9 (by decide +kernel)) (fun _ => ?_)
              refine lv_bipush (v := (-5)) hx hb dX12_bagBest_95 (by decide +kernel) ?_
              exact W.iret hx hb hr (fun t ht hW => ⟨⟨_, (f_11, f_12, f_13), rfl, ⟨(show bbQ (VALW l9 f1 f2 f3 f4 f5) n0 (bn 0) (bf 0) (0 ≤ (0 : Int32).toInt ∧ (0 : Int32).toInt ≤ 2) x2 x3 ((-5) : Int32) from (Or.inr ⟨⟨(by decide +kernel), ⟨(by omega), (by omega)⟩, (by omega), (by omega)⟩, Or.inl ⟨⟨ii, ⟨(by omega), (by (try dsimp only); omega)⟩, hin9, (by show ((VALW l9 f1 f2 f3 f4 f5) ((bf 0) (ii.toNatClampNeg)) x2 x3).2.toInt = 0; rw [← ez_6]; exact mu_of hv_r_9 (by omega))⟩, (by decide +kernel)⟩⟩)), hst⟩, by rw [ht]; exact hP.sub [0, 1, 2, 3, 4, 5, 6, 7, 8, 9, 10, 11, 12, 13, 14, 15, 16, 17, 18] rfl, hD.sub [0, 1, 2, 3, 4, 5, 6, 7, 8, 9, 10, 11, 12, 13, 14, 15, 16, 17, 18] (by decide +kernel) rfl⟩, hS.F ht⟩) hS.2.2 dX12_bagBest_97
            · refine lv_if_eq (tgt := 98) hx hb dX12_bagBest_92 (by decide +kernel) (fun _ => ?_) (fun c9 => absurd c9 (by decide +kernel))
              have hnm9 : ¬ ((VALW l9 f1 f2 f3 f4 f5) ((bf 0) (ii.toNatClampNeg)) x2 x3).2.toInt = 0 := by rw [← ez_6]; exact nmu_of hv_r_9 (by omega)
              refine lv_iload hx hb dX12_bagBest_98 (lv_at hl 3 rfl) ?_
              refine lv_iconst (v := (-1)) hx hb dX12_bagBest_100 (by decide +kernel) ?_
              refine lv_icmp_eq (tgt := 118) hx hb dX12_bagBest_101 (by decide +kernel) (fun c_16 => ?_) (fun c_16 => ?_)
              · rw [fa_eq] at c_16
                try rw [ti_n1] at c_16
                refine lv_iload hx hb dX12_bagBest_118 (lv_at hl 2 rfl) ?_
                refine lv_istore (lv' := [(4, .int ii), (8, .int r_9), (7, .int z_6), (6, .int ii), (5, .int bs), (0, .ref h0), (1, .int 0), (2, .int x2), (3, .int x3)]) hx hb dX12_bagBest_120 hl (by decide +kernel) rfl (fun ls hl => ?_)
                refine lv_iload hx hb dX12_bagBest_122 (lv_at hl 1 rfl) ?_
                refine lv_istore (lv' := [(5, .int r_9), (4, .int ii), (8, .int r_9), (7, .int z_6), (6, .int ii), (0, .ref h0), (1, .int 0), (2, .int x2), (3, .int x3)]) hx hb dX12_bagBest_124 hl (by decide +kernel) rfl (fun ls hl => ?_)
                obtain ⟨z_17, ez_17⟩ : ∃ y : Int32, y = ii + 1 := ⟨_, rfl⟩
                refine lv_iinc (v := z_17) (lv' := [(6, .int z_17), (5, .int r_9), (4, .int ii), (8, .int r_9), (7, .int z_6), (0, .ref h0), (1, .int 0), (2, .int x2), (3, .int x3)]) hx hb dX12_bagBest_126 hl (k := 4) rfl (by rw [ez_17]; rfl) (by decide +kernel) rfl (fun ls hl => ?_)
                refine lv_goto (tgt := 27) hx hb dX12_bagBest_129 (by decide +kernel) ?_
                have hi9 : z_17.toInt = ii.toInt + 1 := (by rw [ez_17]; exact inc1 (i := ii) (n := 1000) (by omega) (by decide +kernel))
                exact ih (z_17, ii, r_9, f_11, f_12, f_13) ls _ _ ⟨lv_sub hl [0, 2, 1, 5, 6, 7, 8] rfl, hP.sub [0, 1, 2, 3, 4, 5, 6, 7, 8, 9, 10, 11, 12, 13, 14, 15, 16, 17, 18] rfl, hD.sub [0, 1, 2, 3, 4, 5, 6, 7, 8, 9, 10, 11, 12, 13, 14, 15, 16, 17, 18] (by decide +kernel) rfl, hS, ⟨⟨(by (try dsimp only); omega), (by (try dsimp only); omega), (by (try dsimp only); omega), (by (try dsimp only); omega)⟩, (fun _ => ⟨hin9, hsl9, hfo9⟩), hst, bbI_take hbb (by (try dsimp only); omega) hi9 hin9 hnm9 (fun i9 => VAL_low hlq.1 hlq.2 31 _ _ _) (by first | exact Or.inl (by omega) | exact Or.inr (by rw [hco9]; omega))⟩⟩ (by (try dsimp only); omega)
              · rw [fa_eq] at c_16
                try rw [ti_n1] at c_16
                have hfb2 := hfb (by omega)
                have hvb9 : (f_11 (bs.toNatClampNeg), f_12 (bs.toNatClampNeg)) = (VALW l9 f1 f2 f3 f4 f5) ((bf 0) (be.toNatClampNeg)) x2 x3 := hst.val (by have h8 := hfb2.1; omega) (by omega) (by omega) hfb2.2.1 (hfk9 (by omega))
                have hbb9 : 0 ≤ (f_12 (bs.toNatClampNeg)).toInt := val_nn (VAL_low hlq.1 hlq.2 31 _ _ _) hvb9
                have hnb9 : ¬ (f_12 (bs.toNatClampNeg)).toInt = 0 := nmu_to hvb9 ((hbb.2.resolve_left (fun q9 => absurd q9.1 (by omega))).2.1 |> fun q9 => hbb.1 be (hbb.2.resolve_left (fun q8 => absurd q8.1 (by omega))).1 q9)
                refine lv_aload_n hx hb dX12_bagBest_104 rfl (lv_at hl 5 rfl) ?_
                refine va_get (D := D) (ci := 9) (v := .ref wo) (C := RX12) (T := TX12) (N := 11) hx hb hts in_X12_bagBest_X12 hown hE.1 hP 0 rfl rfl 6 (by decide +kernel) (hts (.fieldLink RX12 43 "ClauseBook" "worth" "LClauseBook$Worth;") (List.mem_of_getElem? (i := 5) rfl)) (fun _ h9 => h9) e0_6 dX12_bagBest_105 ?_
                refine lv_iload hx hb dX12_bagBest_108 (lv_at hl 0 rfl) ?_
                refine lv_iload hx hb dX12_bagBest_110 (lv_at hl 4 rfl) ?_
                refine vp_callSi (W.runV (As := [.int r_9, .int bs]) (rest := []) ⟨hx, hb, hml, hown, hts⟩ (c_X11_order l D T wo [.ref la, .ref cl, .ref p0, .ref p1, .ref p4, .int n] p1 f_12 p0 f_11 r_9 bs rfl rfl (by first | decide | omega) (by first | decide | omega) (by first | omega | assumption | decide) (by first | omega | assumption | decide)) (cwV 2 hts gX12_bagBest_X11_order rfl rfl rfl hv_X11_order ⟨Nat.le_of_ble_eq_true rfl, Nat.le_of_ble_eq_true rfl⟩) (pR_V (q := (RX11, TX11, 6)) (ci := 8) (q0 := 1) hP hE rfl rfl [1, 10, 9] rfl) rfl rfl hl.1 rfl (lv_room (Nat.le_of_ble_eq_true rfl)) dX12_bagBest_112 ⟨Nat.le_of_ble_eq_true rfl, Nat.le_of_ble_eq_true rfl⟩) (fun r_18 hr_18 => ?_)
                have hco9 : cmpP ((VALW l9 f1 f2 f3 f4 f5) ((bf 0) (ii.toNatClampNeg)) x2 x3) ((VALW l9 f1 f2 f3 f4 f5) ((bf 0) (be.toNatClampNeg)) x2 x3) = r_18.toInt := by rw [← ez_6]; exact (cmp_of hv_r_9 hvb9).trans hr_18.symm
                refine lv_if_le (tgt := 126) hx hb dX12_bagBest_115 (by decide +kernel) (fun c_19 => ?_) (fun c_19 => ?_)
                · rw [fa_le] at c_19
                  try rw [ti_0] at c_19
                  obtain ⟨z_20, ez_20⟩ : ∃ y : Int32, y = ii + 1 := ⟨_, rfl⟩
                  refine lv_iinc (v := z_20) (lv' := [(6, .int z_20), (8, .int r_9), (7, .int z_6), (4, .int be), (5, .int bs), (0, .ref h0), (1, .int 0), (2, .int x2), (3, .int x3)]) hx hb dX12_bagBest_126 hl (k := 2) rfl (by rw [ez_20]; rfl) (by decide +kernel) rfl (fun ls hl => ?_)
                  refine lv_goto (tgt := 27) hx hb dX12_bagBest_129 (by decide +kernel) ?_
                  have hi9 : z_20.toInt = ii.toInt + 1 := (by rw [ez_20]; exact inc1 (i := ii) (n := 1000) (by omega) (by decide +kernel))
                  exact ih (z_20, be, bs, f_11, f_12, f_13) ls _ _ ⟨lv_sub hl [0, 3, 4, 5, 6, 7, 8] rfl, hP.sub [0, 1, 2, 3, 4, 5, 6, 7, 8, 9, 10, 11, 12, 13, 14, 15, 16, 17, 18] rfl, hD.sub [0, 1, 2, 3, 4, 5, 6, 7, 8, 9, 10, 11, 12, 13, 14, 15, 16, 17, 18] (by decide +kernel) rfl, hS, ⟨⟨(by (try dsimp only); omega), (by (try dsimp only); omega), (by (try dsimp only); omega), (by (try dsimp only); omega)⟩, (fun h9 => ⟨(hfb h9).1, (hfb h9).2.1, hfk9 h9⟩), hst, bbI_keep hbb hi9 hnm9 (by omega) (by rw [hco9]; omega)⟩⟩ (by (try dsimp only); omega)
                · rw [fa_le] at c_19
                  try rw [ti_0] at c_19
                  refine lv_iload hx hb dX12_bagBest_118 (lv_at hl 2 rfl) ?_
                  refine lv_istore (lv' := [(4, .int ii), (8, .int r_9), (7, .int z_6), (6, .int ii), (5, .int bs), (0, .ref h0), (1, .int 0), (2, .int x2), (3, .int x3)]) hx hb dX12_bagBest_120 hl (by decide +kernel) rfl (fun ls hl => ?_)
                  refine lv_iload hx hb dX12_bagBest_122 (lv_at hl 1 rfl) ?_
                  refine lv_istore (lv' := [(5, .int r_9), (4, .int ii), (8, .int r_9), (7, .int z_6), (6, .int ii), (0, .ref h0), (1, .int 0), (2, .int x2), (3, .int x3)]) hx hb dX12_bagBest_124 hl (by decide +kernel) rfl (fun ls hl => ?_)
                  obtain ⟨z_21, ez_21⟩ : ∃ y : Int32, y = ii + 1 := ⟨_, rfl⟩
                  refine lv_iinc (v := z_21) (lv' := [(6, .int z_21), (5, .int r_9), (4, .int ii), (8, .int r_9), (7, .int z_6), (0, .ref h0), (1, .int 0), (2, .int x2), (3, .int x3)]) hx hb dX12_bagBest_126 hl (k := 4) rfl (by rw [ez_21]; rfl) (by decide +kernel) rfl (fun ls hl => ?_)
                  refine lv_goto (tgt := 27) hx hb dX12_bagBest_129 (by decide +kernel) ?_
                  have hi9 : z_21.toInt = ii.toInt + 1 := (by rw [ez_21]; exact inc1 (i := ii) (n := 1000) (by omega) (by decide +kernel))
                  exact ih (z_21, ii, r_9, f_11, f_12, f_13) ls _ _ ⟨lv_sub hl [0, 2, 1, 5, 6, 7, 8] rfl, hP.sub [0, 1, 2, 3, 4, 5, 6, 7, 8, 9, 10, 11, 12, 13, 14, 15, 16, 17, 18] rfl, hD.sub [0, 1, 2, 3, 4, 5, 6, 7, 8, 9, 10, 11, 12, 13, 14, 15, 16, 17, 18] (by decide +kernel) rfl, hS, ⟨⟨(by (try dsimp only); omega), (by (try dsimp only); omega), (by (try dsimp only); omega), (by (try dsimp only); omega)⟩, (fun _ => ⟨hin9, hsl9, hfo9⟩), hst, bbI_take hbb (by (try dsimp only); omega) hi9 hin9 hnm9 (fun i9 => VAL_low hlq.1 hlq.2 31 _ _ _) (by first | exact Or.inl (by omega) | exact Or.inr (by rw [hco9]; omega))⟩⟩ (by (try dsimp only); omega)
          · refine lv_if_ne (tgt := 70) hx hb dX12_bagBest_64 (by decide +kernel) (fun c9 => absurd c9 (by decide +kernel)) (fun _ => ?_)
            refine lv_goto (tgt := 126) hx hb dX12_bagBest_67 (by decide +kernel) ?_
            obtain ⟨z_22, ez_22⟩ : ∃ y : Int32, y = ii + 1 := ⟨_, rfl⟩
            refine lv_iinc (v := z_22) (lv' := [(6, .int z_22), (7, .int z_6), (4, .int be), (5, .int bs), (0, .ref h0), (1, .int 0), (2, .int x2), (3, .int x3)]) hx hb dX12_bagBest_126 hl (k := 1) rfl (by rw [ez_22]; rfl) (by decide +kernel) rfl (fun ls hl => ?_)
            refine lv_goto (tgt := 27) hx hb dX12_bagBest_129 (by decide +kernel) ?_
            have hi9 : z_22.toInt = ii.toInt + 1 := (by rw [ez_22]; exact inc1 (i := ii) (n := 1000) (by omega) (by decide +kernel))
            exact ih (z_22, be, bs, v0, v1, v4) ls _ _ ⟨lv_sub hl [0, 2, 3, 4, 5, 6, 7] rfl, hP.sub [0, 1, 2, 3, 4, 5, 6, 7, 8, 9, 10, 11, 12, 13, 14, 15, 16, 17, 18] rfl, hD.sub [0, 1, 2, 3, 4, 5, 6, 7, 8, 9, 10, 11, 12, 13, 14, 15, 16, 17, 18] (by decide +kernel) rfl, hS, ⟨⟨(by (try dsimp only); omega), (by (try dsimp only); omega), (by (try dsimp only); omega), (by (try dsimp only); omega)⟩, hfb, hst, bbI_skip hbb hi9 (by rw [← ez_6]; omega)⟩⟩ (by (try dsimp only); omega)
      · refine lv_iconst (v := (-1)) hx hb dX12_bagBest_18 (by decide +kernel) ?_
        refine lv_istore (lv' := [(4, .int (-1)), (0, .ref h0), (1, .int 1), (2, .int x2), (3, .int x3)]) hx hb dX12_bagBest_19 hl (by decide +kernel) rfl (fun ls hl => ?_)
        refine lv_iconst (v := 0) hx hb dX12_bagBest_21 (by decide +kernel) ?_
        refine lv_istore (lv' := [(5, .int 0), (4, .int (-1)), (0, .ref h0), (1, .int 1), (2, .int x2), (3, .int x3)]) hx hb dX12_bagBest_22 hl (by decide +kernel) rfl (fun ls hl => ?_)
        refine lv_iconst (v := 0) hx hb dX12_bagBest_24 (by decide +kernel) ?_
        refine lv_istore (lv' := [(6, .int 0), (5, .int 0), (4, .int (-1)), (0, .ref h0), (1, .int 1), (2, .int x2), (3, .int x3)]) hx hb dX12_bagBest_25 hl (by decide +kernel) rfl (fun ls hl => ?_)
        refine loopW (σ := (Int32) × (Int32) × (Int32) × (Nat → Int64) × (Nat → Int64) × (Nat → Int32)) (fun x9 ls H locs => lv_has ls 9 [(6, .int x9.1), (4, .int x9.2.1), (5, .int x9.2.2.1), (0, .ref h0), (1, .int 1), (2, .int x2), (3, .int x3)] ∧ va_P D vwCl [(h0, .inr (9, fs0)), (wo, .inr (8, [.ref la, .ref cl, .ref p0, .ref p1, .ref p4, .int n])), (la, .inr (5, [.int (l9 0), .int (l9 1), .int (l9 2), .int (l9 3), .int (l9 4), .int (l9 5), .int (l9 6)])), (cl, .inr (1, [.int n0, .ref c1, .ref c2, .ref c3, .ref c4, .ref c5, .ref c6, .ref c7])), (c1, .inl (T 0, 24, .inl f1)), (c2, .inl (T 0, 24, .inl f2)), (c3, .inl (T 0, 24, .inl f3)), (c4, .inl (T 0, 24, .inl f4)), (c5, .inl (T 0, 24, .inl f5)), (p0, .inl (T 1, 676, .inr (.inl x9.2.2.2.1))), (p1, .inl (T 1, 676, .inr (.inl x9.2.2.2.2.1))), (p4, .inl (T 0, 672, .inl x9.2.2.2.2.2)), (h1, .inl (T 5, 3, .inr (.inr (.inr (.inr (va_up (va_up (va_up (fun _ => none) 0 (some t0)) 1 (some t1)) 2 (some t2))))))), (t0, .inr (0, [.int (bn 0), .ref a0])), (t1, .inr (0, [.int (bn 1), .ref a1])), (t2, .inr (0, [.int (bn 2), .ref a2])), (a0, .inl (T 0, 12, .inl (bf 0))), (a1, .inl (T 0, 12, .inl (bf 1))), (a2, .inl (T 0, 12, .inl (bf 2)))] H ∧ va_D A [(h0, .inr (9, fs0)), (wo, .inr (8, [.ref la, .ref cl, .ref p0, .ref p1, .ref p4, .int n])), (la, .inr (5, [.int (l9 0), .int (l9 1), .int (l9 2), .int (l9 3), .int (l9 4), .int (l9 5), .int (l9 6)])), (cl, .inr (1, [.int n0, .ref c1, .ref c2, .ref c3, .ref c4, .ref c5, .ref c6, .ref c7])), (c1, .inl (T 0, 24, .inl f1)), (c2, .inl (T 0, 24, .inl f2)), (c3, .inl (T 0, 24, .inl f3)), (c4, .inl (T 0, 24, .inl f4)), (c5, .inl (T 0, 24, .inl f5)), (p0, .inl (T 1, 676, .inr (.inl x9.2.2.2.1))), (p1, .inl (T 1, 676, .inr (.inl x9.2.2.2.2.1))), (p4, .inl (T 0, 672, .inl x9.2.2.2.2.2)), (h1, .inl (T 5, 3, .inr (.inr (.inr (.inr (va_up (va_up (va_up (fun _ => none) 0 (some t0)) 1 (some t1)) 2 (some t2))))))), (t0, .inr (0, [.int (bn 0), .ref a0])), (t1, .inr (0, [.int (bn 1), .ref a1])), (t2, .inr (0, [.int (bn 2), .ref a2])), (a0, .inl (T 0, 12, .inl (bf 0))), (a1, .inl (T 0, 12, .inl (bf 1))), (a2, .inl (T 0, 12, .inl (bf 2)))] ∧ va_S A s.heap H locs ∧ ((0 ≤ x9.1.toInt ∧ x9.1.toInt ≤ (bn 1).toInt ∧ 0 ≤ x9.2.2.1.toInt ∧ x9.2.2.1.toInt < 672) ∧ (¬ x9.2.1.toInt = -1 → inN n0 ((bf 1) (x9.2.1.toNatClampNeg)) ∧ x9.2.2.1.toNatClampNeg = slN ((bf 1) (x9.2.1.toNatClampNeg)) x2 x3 ∧ x9.2.2.2.2.2 (slN ((bf 1) (x9.2.1.toNatClampNeg)) x2 x3) = n) ∧ stW (VALW l9 f1 f2 f3 f4 f5) n0 n (fun _ => True) g0 g1 g4 x9.2.2.2.1 x9.2.2.2.2.1 x9.2.2.2.2.2 ∧ bbI (VALW l9 f1 f2 f3 f4 f5) n0 (bf 1) x2 x3 x9.1 x9.2.1)) (fun x9 => (13 - x9.1.toInt).toNat) (fun x9 ls H locs hI ih => ?_) (0, (-1), 0, g0, g1, g4) ls ⟨lv_sub hl [0, 2, 1, 3, 4, 5, 6] rfl, hP.sub [0, 1, 2, 3, 4, 5, 6, 7, 8, 9, 10, 11, 12, 13, 14, 15, 16, 17, 18] rfl, hD.sub [0, 1, 2, 3, 4, 5, 6, 7, 8, 9, 10, 11, 12, 13, 14, 15, 16, 17, 18] (by decide +kernel) rfl, hS, ⟨(by (try dsimp only); simp only [ti_0]; omega), (fun h9 => absurd ti_n1 h9), hst, bbI_0⟩⟩
        obtain ⟨ii, be, bs, v0, v1, v4⟩ := x9
        obtain ⟨hl, hP, hD, hS, hinv⟩ := hI
        have hl : lv_has ls 9 [(6, .int ii), (4, .int be), (5, .int bs), (0, .ref h0), (1, .int 1), (2, .int x2), (3, .int x3)] := hl
        have hP : va_P D vwCl [(h0, .inr (9, fs0)), (wo, .inr (8, [.ref la, .ref cl, .ref p0, .ref p1, .ref p4, .int n])), (la, .inr (5, [.int (l9 0), .int (l9 1), .int (l9 2), .int (l9 3), .int (l9 4), .int (l9 5), .int (l9 6)])), (cl, .inr (1, [.int n0, .ref c1, .ref c2, .ref c3, .ref c4, .ref c5, .ref c6, .ref c7])), (c1, .inl (T 0, 24, .inl f1)), (c2, .inl (T 0, 24, .inl f2)), (c3, .inl (T 0, 24, .inl f3)), (c4, .inl (T 0, 24, .inl f4)), (c5, .inl (T 0, 24, .inl f5)), (p0, .inl (T 1, 676, .inr (.inl v0))), (p1, .inl (T 1, 676, .inr (.inl v1))), (p4, .inl (T 0, 672, .inl v4)), (h1, .inl (T 5, 3, .inr (.inr (.inr (.inr (va_up (va_up (va_up (fun _ => none) 0 (some t0)) 1 (some t1)) 2 (some t2))))))), (t0, .inr (0, [.int (bn 0), .ref a0])), (t1, .inr (0, [.int (bn 1), .ref a1])), (t2, .inr (0, [.int (bn 2), .ref a2])), (a0, .inl (T 0, 12, .inl (bf 0))), (a1, .inl (T 0, 12, .inl (bf 1))), (a2, .inl (T 0, 12, .inl (bf 2)))] H := hP
        have hD : va_D A [(h0, .inr (9, fs0)), (wo, .inr (8, [.ref la, .ref cl, .ref p0, .ref p1, .ref p4, .int n])), (la, .inr (5, [.int (l9 0), .int (l9 1), .int (l9 2), .int (l9 3), .int (l9 4), .int (l9 5), .int (l9 6)])), (cl, .inr (1, [.int n0, .ref c1, .ref c2, .ref c3, .ref c4, .ref c5, .ref c6, .ref c7])), (c1, .inl (T 0, 24, .inl f1)), (c2, .inl (T 0, 24, .inl f2)), (c3, .inl (T 0, 24, .inl f3)), (c4, .inl (T 0, 24, .inl f4)), (c5, .inl (T 0, 24, .inl f5)), (p0, .inl (T 1, 676, .inr (.inl v0))), (p1, .inl (T 1, 676, .inr (.inl v1))), (p4, .inl (T 0, 672, .inl v4)), (h1, .inl (T 5, 3, .inr (.inr (.inr (.inr (va_up (va_up (va_up (fun _ => none) 0 (some t0)) 1 (some t1)) 2 (some t2))))))), (t0, .inr (0, [.int (bn 0), .ref a0])), (t1, .inr (0, [.int (bn 1), .ref a1])), (t2, .inr (0, [.int (bn 2), .ref a2])), (a0, .inl (T 0, 12, .inl (bf 0))), (a1, .inl (T 0, 12, .inl (bf 1))), (a2, .inl (T 0, 12, .inl (bf 2)))] := hD
        have hinv : (0 ≤ ii.toInt ∧ ii.toInt ≤ (bn 1).toInt ∧ 0 ≤ bs.toInt ∧ bs.toInt < 672) ∧ (¬ be.toInt = -1 → inN n0 ((bf 1) (be.toNatClampNeg)) ∧ bs.toNatClampNeg = slN ((bf 1) (be.toNatClampNeg)) x2 x3 ∧ v4 (slN ((bf 1) (be.toNatClampNeg)) x2 x3) = n) ∧ stW (VALW l9 f1 f2 f3 f4 f5) n0 n (fun _ => True) g0 g1 g4 v0 v1 v4 ∧ bbI (VALW l9 f1 f2 f3 f4 f5) n0 (bf 1) x2 x3 ii be := hinv
        obtain ⟨hrg9, hfb, hst, hbb⟩ := hinv
        have hbb : bbI (VALW l9 f1 f2 f3 f4 f5) n0 (bf 1) x2 x3 ii be := hbb
        have hmm : memW (VALW l9 f1 f2 f3 f4 f5) n0 n v0 v1 v4 := hst.1
        refine lv_iload hx hb dX12_bagBest_27 (lv_at hl 0 rfl) ?_
        refine lv_aload_n hx hb dX12_bagBest_29 rfl (lv_at hl 3 rfl) ?_
        refine va_get (D := D) (ci := 9) (v := .ref h1) (C := RX12) (T := TX12) (N := 11) hx hb hts in_X12_bagBest_X12 hown hE.1 hP 0 rfl rfl 5 (by decide +kernel) (hts (.fieldLink RX12 37 "ClauseBook" "bags" "[LClauseBook$Bag;") (List.mem_of_getElem? (i := 1) rfl)) (fun _ h9 => h9) e0_5 dX12_bagBest_30 ?_
        refine lv_iload_n hx hb dX12_bagBest_33 rfl (lv_at hl 4 rfl) ?_
        refine va_aldq hx hb hE.1 hP 12 5 rfl rfl (by unfold vp_in; decide) dX12_bagBest_34 ?_
        refine W.eq (g2 := F0 m 35 ls [.ref t1, .int ii]) rfl ?_
        refine va_get (D := D) (ci := 0) (v := .int (bn 1)) (C := RX1) (T := TX1) (N := 2) hx hb hts in_X12_bagBest_X1 hown hE.1 hP 14 rfl rfl 0 (by decide +kernel) (hts (.fieldLink RX12 307 "ClauseBook$Bag" "size" "I") (List.mem_of_getElem? (i := 2) rfl)) (fun _ h9 => h9) rfl dX12_bagBest_35 ?_
        refine lv_icmp_ge (tgt := 132) hx hb dX12_bagBest_38 (by decide +kernel) (fun c_23 => ?_) (fun c_23 => ?_)
        · rw [fa_le] at c_23
          refine lv_iload hx hb dX12_bagBest_132 (lv_at hl 1 rfl) ?_
          exact W.iret hx hb hr (fun t ht hW => ⟨⟨_, (v0, v1, v4), rfl, ⟨(show bbQ (VALW l9 f1 f2 f3 f4 f5) n0 (bn 1) (bf 1) (0 ≤ (1 : Int32).toInt ∧ (1 : Int32).toInt ≤ 2) x2 x3 be from (bb_of ⟨(by decide +kernel), ⟨(by omega), (by omega)⟩, (by omega), (by omega)⟩ (bb_end hbb (by omega) (by omega)))), hst⟩, by rw [ht]; exact hP.sub [0, 1, 2, 3, 4, 5, 6, 7, 8, 9, 10, 11, 12, 13, 14, 15, 16, 17, 18] rfl, hD.sub [0, 1, 2, 3, 4, 5, 6, 7, 8, 9, 10, 11, 12, 13, 14, 15, 16, 17, 18] (by decide +kernel) rfl⟩, hS.F ht⟩) hS.2.2 dX12_bagBest_134
        · rw [fa_le] at c_23
          refine lv_aload_n hx hb dX12_bagBest_41 rfl (lv_at hl 3 rfl) ?_
          refine va_get (D := D) (ci := 9) (v := .ref h1) (C := RX12) (T := TX12) (N := 11) hx hb hts in_X12_bagBest_X12 hown hE.1 hP 0 rfl rfl 5 (by decide +kernel) (hts (.fieldLink RX12 37 "ClauseBook" "bags" "[LClauseBook$Bag;") (List.mem_of_getElem? (i := 1) rfl)) (fun _ h9 => h9) e0_5 dX12_bagBest_42 ?_
          refine lv_iload_n hx hb dX12_bagBest_45 rfl (lv_at hl 4 rfl) ?_
          refine va_aldq hx hb hE.1 hP 12 5 rfl rfl (by unfold vp_in; decide) dX12_bagBest_46 ?_
          refine W.eq (g2 := F0 m 47 ls [.ref t1]) rfl ?_
          refine va_get (D := D) (ci := 0) (v := .ref a1) (C := RX1) (T := TX1) (N := 2) hx hb hts in_X12_bagBest_X1 hown hE.1 hP 14 rfl rfl 1 (by decide +kernel) (hts (.fieldLink RX12 308 "ClauseBook$Bag" "numbers" "[I") (List.mem_of_getElem? (i := 3) rfl)) (fun _ h9 => h9) rfl dX12_bagBest_47 ?_
          refine lv_iload hx hb dX12_bagBest_50 (lv_at hl 0 rfl) ?_
          refine va_iald hx hb hE.1 hP 17 0 rfl rfl (by rw [vp_in_iff]; first | omega | (subst_vars; omega)) dX12_bagBest_52 ?_
          refine lv_topi (fun z_24 ez_24 => ?_)
          refine lv_istore (lv' := [(7, .int z_24), (6, .int ii), (4, .int be), (5, .int bs), (0, .ref h0), (1, .int 1), (2, .int x2), (3, .int x3)]) hx hb dX12_bagBest_53 hl (by decide +kernel) rfl (fun ls hl => ?_)
          refine lv_aload_n hx hb dX12_bagBest_55 rfl (lv_at hl 4 rfl) ?_
          refine va_get (D := D) (ci := 9) (v := .ref cl) (C := RX12) (T := TX12) (N := 11) hx hb hts in_X12_bagBest_X12 hown hE.1 hP 0 rfl rfl 4 (by decide +kernel) (hts (.fieldLink RX12 32 "ClauseBook" "clauses" "LClauseBook$Clauses;") (List.mem_of_getElem? (i := 4) rfl)) (fun _ h9 => h9) e0_4 dX12_bagBest_56 ?_
          refine lv_iload hx hb dX12_bagBest_59 (lv_at hl 0 rfl) ?_
          refine vp_callSi (W.runV (As := [.int z_24]) (rest := []) ⟨hx, hb, hml, hown, hts⟩ (c_X2_has l D T cl [.int n0, .ref c1, .ref c2, .ref c3, .ref c4, .ref c5, .ref c6, .ref c7] z_24 n0 rfl (by omega)) (cwV 1 hts gX12_bagBest_X2_has rfl rfl rfl hv_X2_has ⟨Nat.le_of_ble_eq_true rfl, Nat.le_of_ble_eq_true rfl⟩) (pR_V (q := (RX2, TX2, 8)) (ci := 1) (q0 := 3) hP hE rfl rfl [3] rfl) rfl rfl hl.1 rfl (lv_room (Nat.le_of_ble_eq_true rfl)) dX12_bagBest_61 ⟨Nat.le_of_ble_eq_true rfl, Nat.le_of_ble_eq_true rfl⟩) (fun r_25 hr_25 => ?_)
          rcases bool_post hr_25 with ⟨c_26, rfl⟩ | ⟨c_26, rfl⟩
          · refine lv_if_ne (tgt := 70) hx hb dX12_bagBest_64 (by decide +kernel) (fun _ => ?_) (fun c9 => absurd c9 (by decide +kernel))
            refine lv_aload_n hx hb dX12_bagBest_70 rfl (lv_at hl 4 rfl) ?_
            refine va_get (D := D) (ci := 9) (v := .ref wo) (C := RX12) (T := TX12) (N := 11) hx hb hts in_X12_bagBest_X12 hown hE.1 hP 0 rfl rfl 6 (by decide +kernel) (hts (.fieldLink RX12 43 "ClauseBook" "worth" "LClauseBook$Worth;") (List.mem_of_getElem? (i := 5) rfl)) (fun _ h9 => h9) e0_6 dX12_bagBest_71 ?_
            refine lv_iload hx hb dX12_bagBest_74 (lv_at hl 0 rfl) ?_
            refine lv_iload_n hx hb dX12_bagBest_76 rfl (lv_at hl 6 rfl) ?_
            refine lv_iload_n hx hb dX12_bagBest_77 rfl (lv_at hl 7 rfl) ?_
            have hFc := va_free (wc := [(wo, .inr (8, [.ref la, .ref cl, .ref p0, .ref p1, .ref p4, .int n])), (la, .inr (5, [.int (l9 0), .int (l9 1), .int (l9 2), .int (l9 3), .int (l9 4), .int (l9 5), .int (l9 6)])), (cl, .inr (1, [.int n0, .ref c1, .ref c2, .ref c3, .ref c4, .ref c5, .ref c6, .ref c7])), (c1, .inl (T 0, 24, .inl f1)), (c2, .inl (T 0, 24, .inl f2)), (c3, .inl (T 0, 24, .inl f3)), (c4, .inl (T 0, 24, .inl f4)), (c5, .inl (T 0, 24, .inl f5)), (p0, .inl (T 1, 676, .inr (.inl v0))), (p1, .inl (T 1, 676, .inr (.inl v1))), (p4, .inl (T 0, 672, .inl v4))]) hD hS hA [1, 2, 3, 4, 5, 6, 7, 8, 9, 10, 11] rfl
            refine va_calli (va_runV (As := [.int z_24, .int x2, .int x3]) (rest := []) ⟨hx, hb, hml, hown, hts⟩ (cS_all l D T ad sa av ta 30 _ wo la cl p0 p1 p4 n l9 n0 c1 c2 c3 c4 c5 c6 c7 f1 f2 f3 f4 f5 v0 v1 v4 z_24 x2 x3 (by omega) (by omega) (by omega) hok (by omega) hmm hlq (by omega)) (cwV 3 hts gX12_bagBest_X11_settle rfl rfl rfl hv_X11_settle ⟨Nat.le_of_ble_eq_true rfl, Nat.le_of_ble_eq_true rfl⟩) (pWk_V (q := (RX11, TX11, 6)) (ci := 8) (q0 := 1) hP hE hD hV hS hFc rfl rfl [1, 2, 3, 4, 5, 6, 7, 8, 9, 10, 11] (by decide +kernel) rfl rfl) rfl rfl hl.1 rfl (lv_room (Nat.le_of_ble_eq_true rfl)) dX12_bagBest_78 ⟨Nat.le_of_ble_eq_true rfl, Nat.le_of_ble_eq_true rfl⟩) hS (fun q _ h => hFc q h) hFc (fun r_27 u_28 t H1 locs ht hvm hr_27 hB hz1 hk1 hS => ?_)
            obtain ⟨f_29, f_30, f_31⟩ := u_28
            obtain ⟨hqr_27, hsl_r_27, hfo_r_27, hstr_27⟩ := hr_27
            have hqr_27 : 0 ≤ r_27.toInt ∧ r_27.toInt < 672 := hqr_27
            have hsl_r_27 : r_27.toNatClampNeg = slN z_24 x2 x3 := hsl_r_27
            have hfo_r_27 : f_31 (slN z_24 x2 x3) = n := hfo_r_27
            have hsr_27 : stW (VALW l9 f1 f2 f3 f4 f5) n0 n (rgW z_24 x2) v0 v1 v4 f_29 f_30 f_31 := hstr_27
            have hst : stW (VALW l9 f1 f2 f3 f4 f5) n0 n (fun _ => True) g0 g1 g4 f_29 f_30 f_31 := hst.tr hsr_27 (fun _ _ => trivial)
            have hmm : memW (VALW l9 f1 f2 f3 f4 f5) n0 n f_29 f_30 f_31 := hst.1
            have hv_r_27 : (f_29 (r_27.toNatClampNeg), f_30 (r_27.toNatClampNeg)) = (VALW l9 f1 f2 f3 f4 f5) z_24 x2 x3 := hst.val (by omega) (by omega) (by first | (rw [ti_0]; omega) | omega) hsl_r_27 hfo_r_27
            have hb_r_27 : 0 ≤ (f_30 (r_27.toNatClampNeg)).toInt := val_nn (VAL_low hlq.1 hlq.2 31 _ _ _) hv_r_27
            obtain ⟨hP1, hD1⟩ := hB
            rw [ht] at hP1
            obtain ⟨hP, hD⟩ := va_repl [(h0, .inr (9, fs0)), (wo, .inr (8, [.ref la, .ref cl, .ref p0, .ref p1, .ref p4, .int n])), (la, .inr (5, [.int (l9 0), .int (l9 1), .int (l9 2), .int (l9 3), .int (l9 4), .int (l9 5), .int (l9 6)])), (cl, .inr (1, [.int n0, .ref c1, .ref c2, .ref c3, .ref c4, .ref c5, .ref c6, .ref c7])), (c1, .inl (T 0, 24, .inl f1)), (c2, .inl (T 0, 24, .inl f2)), (c3, .inl (T 0, 24, .inl f3)), (c4, .inl (T 0, 24, .inl f4)), (c5, .inl (T 0, 24, .inl f5)), (p0, .inl (T 1, 676, .inr (.inl f_29))), (p1, .inl (T 1, 676, .inr (.inl f_30))), (p4, .inl (T 0, 672, .inl f_31)), (h1, .inl (T 5, 3, .inr (.inr (.inr (.inr (va_up (va_up (va_up (fun _ => none) 0 (some t0)) 1 (some t1)) 2 (some t2))))))), (t0, .inr (0, [.int (bn 0), .ref a0])), (t1, .inr (0, [.int (bn 1), .ref a1])), (t2, .inr (0, [.int (bn 2), .ref a2])), (a0, .inl (T 0, 12, .inl (bf 0))), (a1, .inl (T 0, 12, .inl (bf 1))), (a2, .inl (T 0, 12, .inl (bf 2)))] hP hD [1, 2, 3, 4, 5, 6, 7, 8, 9, 10, 11] [1, 2, 3, 4, 5, 6, 7, 8, 9, 10, 11] rfl (by decide +kernel) rfl rfl rfl hk1 hP1
            clear hP1 hD1 hFc
            generalize H1 = H at hP hS ⊢
            refine lv_istore (lv' := [(8, .int r_27), (7, .int z_24), (6, .int ii), (4, .int be), (5, .int bs), (0, .ref h0), (1, .int 1), (2, .int x2), (3, .int x3)]) hx hb dX12_bagBest_81 hl (by decide +kernel) rfl (fun ls hl => ?_)
            have hin9 : inN n0 ((bf 1) (ii.toNatClampNeg)) := by rw [← ez_24]; omega
            have hsl9 : r_27.toNatClampNeg = slN ((bf 1) (ii.toNatClampNeg)) x2 x3 := by rw [← ez_24]; exact hsl_r_27
            have hfo9 : f_31 (slN ((bf 1) (ii.toNatClampNeg)) x2 x3) = n := by rw [← ez_24]; exact hfo_r_27
            have hfk9 : ¬ be.toInt = -1 → f_31 (slN ((bf 1) (be.toNatClampNeg)) x2 x3) = n := fun h9 => hsr_27.2.1 _ (slN_lt (by have h8 := (hfb h9).1; omega) (by omega) (by omega)) (hfb h9).2.2
            refine lv_aload_n hx hb dX12_bagBest_83 rfl (lv_at hl 5 rfl) ?_
            refine va_get (D := D) (ci := 9) (v := .ref wo) (C := RX12) (T := TX12) (N := 11) hx hb hts in_X12_bagBest_X12 hown hE.1 hP 0 rfl rfl 6 (by decide +kernel) (hts (.fieldLink RX12 43 "ClauseBook" "worth" "LClauseBook$Worth;") (List.mem_of_getElem? (i := 5) rfl)) (fun _ h9 => h9) e0_6 dX12_bagBest_84 ?_
            refine lv_iload hx hb dX12_bagBest_87 (lv_at hl 0 rfl) ?_
            refine vp_callSi (W.runV (As := [.int r_27]) (rest := []) ⟨hx, hb, hml, hown, hts⟩ (c_X11_isMuch l D T wo [.ref la, .ref cl, .ref p0, .ref p1, .ref p4, .int n] p1 f_30 r_27 rfl (by first | decide | omega)) (cwV 1 hts gX12_bagBest_X11_isMuch rfl rfl rfl hv_X11_isMuch ⟨Nat.le_of_ble_eq_true rfl, Nat.le_of_ble_eq_true rfl⟩) (pR_V (q := (RX11, TX11, 6)) (ci := 8) (q0 := 1) hP hE rfl rfl [1, 10] rfl) rfl rfl hl.1 rfl (lv_room (Nat.le_of_ble_eq_true rfl)) dX12_bagBest_89 ⟨Nat.le_of_ble_eq_true rfl, Nat.le_of_ble_eq_true rfl⟩) (fun r_32 hr_32 => ?_)
            rcases bool_post hr_32 with ⟨c_33, rfl⟩ | ⟨c_33, rfl⟩
            · refine lv_if_eq (tgt := 98) hx hb dX12_bagBest_92 (by decide +kernel) (fun c9 => absurd c9 (by decide +kernel)) (fun _ => ?_)
              refine lv_bipush (v := (-5)) hx hb dX12_bagBest_95 (by decide +kernel) ?_
              exact W.iret hx hb hr (fun t ht hW => ⟨⟨_, (f_29, f_30, f_31), rfl, ⟨(show bbQ (VALW l9 f1 f2 f3 f4 f5) n0 (bn 1) (bf 1) (0 ≤ (1 : Int32).toInt ∧ (1 : Int32).toInt ≤ 2) x2 x3 ((-5) : Int32) from (Or.inr ⟨⟨(by decide +kernel), ⟨(by omega), (by omega)⟩, (by omega), (by omega)⟩, Or.inl ⟨⟨ii, ⟨(by omega), (by (try dsimp only); omega)⟩, hin9, (by show ((VALW l9 f1 f2 f3 f4 f5) ((bf 1) (ii.toNatClampNeg)) x2 x3).2.toInt = 0; rw [← ez_24]; exact mu_of hv_r_27 (by omega))⟩, (by decide +kernel)⟩⟩)), hst⟩, by rw [ht]; exact hP.sub [0, 1, 2, 3, 4, 5, 6, 7, 8, 9, 10, 11, 12, 13, 14, 15, 16, 17, 18] rfl, hD.sub [0, 1, 2, 3, 4, 5, 6, 7, 8, 9, 10, 11, 12, 13, 14, 15, 16, 17, 18] (by decide +kernel) rfl⟩, hS.F ht⟩) hS.2.2 dX12_bagBest_97
            · refine lv_if_eq (tgt := 98) hx hb dX12_bagBest_92 (by decide +kernel) (fun _ => ?_) (fun c9 => absurd c9 (by decide +kernel))
              have hnm9 : ¬ ((VALW l9 f1 f2 f3 f4 f5) ((bf 1) (ii.toNatClampNeg)) x2 x3).2.toInt = 0 := by rw [← ez_24]; exact nmu_of hv_r_27 (by omega)
              refine lv_iload hx hb dX12_bagBest_98 (lv_at hl 3 rfl) ?_
              refine lv_iconst (v := (-1)) hx hb dX12_bagBest_100 (by decide +kernel) ?_
              refine lv_icmp_eq (tgt := 118) hx hb dX12_bagBest_101 (by decide +kernel) (fun c_34 => ?_) (fun c_34 => ?_)
              · rw [fa_eq] at c_34
                try rw [ti_n1] at c_34
                refine lv_iload hx hb dX12_bagBest_118 (lv_at hl 2 rfl) ?_
                refine lv_istore (lv' := [(4, .int ii), (8, .int r_27), (7, .int z_24), (6, .int ii), (5, .int bs), (0, .ref h0), (1, .int 1), (2, .int x2), (3, .int x3)]) hx hb dX12_bagBest_120 hl (by decide +kernel) rfl (fun ls hl => ?_)
                refine lv_iload hx hb dX12_bagBest_122 (lv_at hl 1 rfl) ?_
                refine lv_istore (lv' := [(5, .int r_27), (4, .int ii), (8, .int r_27), (7, .int z_24), (6, .int ii), (0, .ref h0), (1, .int 1), (2, .int x2), (3, .int x3)]) hx hb dX12_bagBest_124 hl (by decide +kernel) rfl (fun ls hl => ?_)
                obtain ⟨z_35, ez_35⟩ : ∃ y : Int32, y = ii + 1 := ⟨_, rfl⟩
                refine lv_iinc (v := z_35) (lv' := [(6, .int z_35), (5, .int r_27), (4, .int ii), (8, .int r_27), (7, .int z_24), (0, .ref h0), (1, .int 1), (2, .int x2), (3, .int x3)]) hx hb dX12_bagBest_126 hl (k := 4) rfl (by rw [ez_35]; rfl) (by decide +kernel) rfl (fun ls hl => ?_)
                refine lv_goto (tgt := 27) hx hb dX12_bagBest_129 (by decide +kernel) ?_
                have hi9 : z_35.toInt = ii.toInt + 1 := (by rw [ez_35]; exact inc1 (i := ii) (n := 1000) (by omega) (by decide +kernel))
                exact ih (z_35, ii, r_27, f_29, f_30, f_31) ls _ _ ⟨lv_sub hl [0, 2, 1, 5, 6, 7, 8] rfl, hP.sub [0, 1, 2, 3, 4, 5, 6, 7, 8, 9, 10, 11, 12, 13, 14, 15, 16, 17, 18] rfl, hD.sub [0, 1, 2, 3, 4, 5, 6, 7, 8, 9, 10, 11, 12, 13, 14, 15, 16, 17, 18] (by decide +kernel) rfl, hS, ⟨⟨(by (try dsimp only); omega), (by (try dsimp only); omega), (by (try dsimp only); omega), (by (try dsimp only); omega)⟩, (fun _ => ⟨hin9, hsl9, hfo9⟩), hst, bbI_take hbb (by (try dsimp only); omega) hi9 hin9 hnm9 (fun i9 => VAL_low hlq.1 hlq.2 31 _ _ _) (by first | exact Or.inl (by omega) | exact Or.inr (by rw [hco9]; omega))⟩⟩ (by (try dsimp only); omega)
              · rw [fa_eq] at c_34
                try rw [ti_n1] at c_34
                have hfb2 := hfb (by omega)
                have hvb9 : (f_29 (bs.toNatClampNeg), f_30 (bs.toNatClampNeg)) = (VALW l9 f1 f2 f3 f4 f5) ((bf 1) (be.toNatClampNeg)) x2 x3 := hst.val (by have h8 := hfb2.1; omega) (by omega) (by omega) hfb2.2.1 (hfk9 (by omega))
                have hbb9 : 0 ≤ (f_30 (bs.toNatClampNeg)).toInt := val_nn (VAL_low hlq.1 hlq.2 31 _ _ _) hvb9
                have hnb9 : ¬ (f_30 (bs.toNatClampNeg)).toInt = 0 := nmu_to hvb9 ((hbb.2.resolve_left (fun q9 => absurd q9.1 (by omega))).2.1 |> fun q9 => hbb.1 be (hbb.2.resolve_left (fun q8 => absurd q8.1 (by omega))).1 q9)
                refine lv_aload_n hx hb dX12_bagBest_104 rfl (lv_at hl 5 rfl) ?_
                refine va_get (D := D) (ci := 9) (v := .ref wo) (C := RX12) (T := TX12) (N := 11) hx hb hts in_X12_bagBest_X12 hown hE.1 hP 0 rfl rfl 6 (by decide +kernel) (hts (.fieldLink RX12 43 "ClauseBook" "worth" "LClauseBook$Worth;") (List.mem_of_getElem? (i := 5) rfl)) (fun _ h9 => h9) e0_6 dX12_bagBest_105 ?_
                refine lv_iload hx hb dX12_bagBest_108 (lv_at hl 0 rfl) ?_
                refine lv_iload hx hb dX12_bagBest_110 (lv_at hl 4 rfl) ?_
                refine vp_callSi (W.runV (As := [.int r_27, .int bs]) (rest := []) ⟨hx, hb, hml, hown, hts⟩ (c_X11_order l D T wo [.ref la, .ref cl, .ref p0, .ref p1, .ref p4, .int n] p1 f_30 p0 f_29 r_27 bs rfl rfl (by first | decide | omega) (by first | decide | omega) (by first | omega | assumption | decide) (by first | omega | assumption | decide)) (cwV 2 hts gX12_bagBest_X11_order rfl rfl rfl hv_X11_order ⟨Nat.le_of_ble_eq_true rfl, Nat.le_of_ble_eq_true rfl⟩) (pR_V (q := (RX11, TX11, 6)) (ci := 8) (q0 := 1) hP hE rfl rfl [1, 10, 9] rfl) rfl rfl hl.1 rfl (lv_room (Nat.le_of_ble_eq_true rfl)) dX12_bagBest_112 ⟨Nat.le_of_ble_eq_true rfl, Nat.le_of_ble_eq_true rfl⟩) (fun r_36 hr_36 => ?_)
                have hco9 : cmpP ((VALW l9 f1 f2 f3 f4 f5) ((bf 1) (ii.toNatClampNeg)) x2 x3) ((VALW l9 f1 f2 f3 f4 f5) ((bf 1) (be.toNatClampNeg)) x2 x3) = r_36.toInt := by rw [← ez_24]; exact (cmp_of hv_r_27 hvb9).trans hr_36.symm
                refine lv_if_le (tgt := 126) hx hb dX12_bagBest_115 (by decide +kernel) (fun c_37 => ?_) (fun c_37 => ?_)
                · rw [fa_le] at c_37
                  try rw [ti_0] at c_37
                  obtain ⟨z_38, ez_38⟩ : ∃ y : Int32, y = ii + 1 := ⟨_, rfl⟩
                  refine lv_iinc (v := z_38) (lv' := [(6, .int z_38), (8, .int r_27), (7, .int z_24), (4, .int be), (5, .int bs), (0, .ref h0), (1, .int 1), (2, .int x2), (3, .int x3)]) hx hb dX12_bagBest_126 hl (k := 2) rfl (by rw [ez_38]; rfl) (by decide +kernel) rfl (fun ls hl => ?_)
                  refine lv_goto (tgt := 27) hx hb dX12_bagBest_129 (by decide +kernel) ?_
                  have hi9 : z_38.toInt = ii.toInt + 1 := (by rw [ez_38]; exact inc1 (i := ii) (n := 1000) (by omega) (by decide +kernel))
                  exact ih (z_38, be, bs, f_29, f_30, f_31) ls _ _ ⟨lv_sub hl [0, 3, 4, 5, 6, 7, 8] rfl, hP.sub [0, 1, 2, 3, 4, 5, 6, 7, 8, 9, 10, 11, 12, 13, 14, 15, 16, 17, 18] rfl, hD.sub [0, 1, 2, 3, 4, 5, 6, 7, 8, 9, 10, 11, 12, 13, 14, 15, 16, 17, 18] (by decide +kernel) rfl, hS, ⟨⟨(by (try dsimp only); omega), (by (try dsimp only); omega), (by (try dsimp only); omega), (by (try dsimp only); omega)⟩, (fun h9 => ⟨(hfb h9).1, (hfb h9).2.1, hfk9 h9⟩), hst, bbI_keep hbb hi9 hnm9 (by omega) (by rw [hco9]; omega)⟩⟩ (by (try dsimp only); omega)
                · rw [fa_le] at c_37
                  try rw [ti_0] at c_37
                  refine lv_iload hx hb dX12_bagBest_118 (lv_at hl 2 rfl) ?_
                  refine lv_istore (lv' := [(4, .int ii), (8, .int r_27), (7, .int z_24), (6, .int ii), (5, .int bs), (0, .ref h0), (1, .int 1), (2, .int x2), (3, .int x3)]) hx hb dX12_bagBest_120 hl (by decide +kernel) rfl (fun ls hl => ?_)
                  refine lv_iload hx hb dX12_bagBest_122 (lv_at hl 1 rfl) ?_
                  refine lv_istore (lv' := [(5, .int r_27), (4, .int ii), (8, .int r_27), (7, .int z_24), (6, .int ii), (0, .ref h0), (1, .int 1), (2, .int x2), (3, .int x3)]) hx hb dX12_bagBest_124 hl (by decide +kernel) rfl (fun ls hl => ?_)
                  obtain ⟨z_39, ez_39⟩ : ∃ y : Int32, y = ii + 1 := ⟨_, rfl⟩
                  refine lv_iinc (v := z_39) (lv' := [(6, .int z_39), (5, .int r_27), (4, .int ii), (8, .int r_27), (7, .int z_24), (0, .ref h0), (1, .int 1), (2, .int x2), (3, .int x3)]) hx hb dX12_bagBest_126 hl (k := 4) rfl (by rw [ez_39]; rfl) (by decide +kernel) rfl (fun ls hl => ?_)
                  refine lv_goto (tgt := 27) hx hb dX12_bagBest_129 (by decide +kernel) ?_
                  have hi9 : z_39.toInt = ii.toInt + 1 := (by rw [ez_39]; exact inc1 (i := ii) (n := 1000) (by omega) (by decide +kernel))
                  exact ih (z_39, ii, r_27, f_29, f_30, f_31) ls _ _ ⟨lv_sub hl [0, 2, 1, 5, 6, 7, 8] rfl, hP.sub [0, 1, 2, 3, 4, 5, 6, 7, 8, 9, 10, 11, 12, 13, 14, 15, 16, 17, 18] rfl, hD.sub [0, 1, 2, 3, 4, 5, 6, 7, 8, 9, 10, 11, 12, 13, 14, 15, 16, 17, 18] (by decide +kernel) rfl, hS, ⟨⟨(by (try dsimp only); omega), (by (try dsimp only); omega), (by (try dsimp only); omega), (by (try dsimp only); omega)⟩, (fun _ => ⟨hin9, hsl9, hfo9⟩), hst, bbI_take hbb (by (try dsimp only); omega) hi9 hin9 hnm9 (fun i9 => VAL_low hlq.1 hlq.2 31 _ _ _) (by first | exact Or.inl (by omega) | exact Or.inr (by rw [hco9]; omega))⟩⟩ (by (try dsimp only); omega)
          · refine lv_if_ne (tgt := 70) hx hb dX12_bagBest_64 (by decide +kernel) (fun c9 => absurd c9 (by decide +kernel)) (fun _ => ?_)
            refine lv_goto (tgt := 126) hx hb dX12_bagBest_67 (by decide +kernel) ?_
            obtain ⟨z_40, ez_40⟩ : ∃ y : Int32, y = ii + 1 := ⟨_, rfl⟩
            refine lv_iinc (v := z_40) (lv' := [(6, .int z_40), (7, .int z_24), (4, .int be), (5, .int bs), (0, .ref h0), (1, .int 1), (2, .int x2), (3, .int x3)]) hx hb dX12_bagBest_126 hl (k := 1) rfl (by rw [ez_40]; rfl) (by decide +kernel) rfl (fun ls hl => ?_)
            refine lv_goto (tgt := 27) hx hb dX12_bagBest_129 (by decide +kernel) ?_
            have hi9 : z_40.toInt = ii.toInt + 1 := (by rw [ez_40]; exact inc1 (i := ii) (n := 1000) (by omega) (by decide +kernel))
            exact ih (z_40, be, bs, v0, v1, v4) ls _ _ ⟨lv_sub hl [0, 2, 3, 4, 5, 6, 7] rfl, hP.sub [0, 1, 2, 3, 4, 5, 6, 7, 8, 9, 10, 11, 12, 13, 14, 15, 16, 17, 18] rfl, hD.sub [0, 1, 2, 3, 4, 5, 6, 7, 8, 9, 10, 11, 12, 13, 14, 15, 16, 17, 18] (by decide +kernel) rfl, hS, ⟨⟨(by (try dsimp only); omega), (by (try dsimp only); omega), (by (try dsimp only); omega), (by (try dsimp only); omega)⟩, hfb, hst, bbI_skip hbb hi9 (by rw [← ez_24]; omega)⟩⟩ (by (try dsimp only); omega)
      · refine lv_iconst (v := (-1)) hx hb dX12_bagBest_18 (by decide +kernel) ?_
        refine lv_istore (lv' := [(4, .int (-1)), (0, .ref h0), (1, .int 2), (2, .int x2), (3, .int x3)]) hx hb dX12_bagBest_19 hl (by decide +kernel) rfl (fun ls hl => ?_)
        refine lv_iconst (v := 0) hx hb dX12_bagBest_21 (by decide +kernel) ?_
        refine lv_istore (lv' := [(5, .int 0), (4, .int (-1)), (0, .ref h0), (1, .int 2), (2, .int x2), (3, .int x3)]) hx hb dX12_bagBest_22 hl (by decide +kernel) rfl (fun ls hl => ?_)
        refine lv_iconst (v := 0) hx hb dX12_bagBest_24 (by decide +kernel) ?_
        refine lv_istore (lv' := [(6, .int 0), (5, .int 0), (4, .int (-1)), (0, .ref h0), (1, .int 2), (2, .int x2), (3, .int x3)]) hx hb dX12_bagBest_25 hl (by decide +kernel) rfl (fun ls hl => ?_)
        refine loopW (σ := (Int32) × (Int32) × (Int32) × (Nat → Int64) × (Nat → Int64) × (Nat → Int32)) (fun x9 ls H locs => lv_has ls 9 [(6, .int x9.1), (4, .int x9.2.1), (5, .int x9.2.2.1), (0, .ref h0), (1, .int 2), (2, .int x2), (3, .int x3)] ∧ va_P D vwCl [(h0, .inr (9, fs0)), (wo, .inr (8, [.ref la, .ref cl, .ref p0, .ref p1, .ref p4, .int n])), (la, .inr (5, [.int (l9 0), .int (l9 1), .int (l9 2), .int (l9 3), .int (l9 4), .int (l9 5), .int (l9 6)])), (cl, .inr (1, [.int n0, .ref c1, .ref c2, .ref c3, .ref c4, .ref c5, .ref c6, .ref c7])), (c1, .inl (T 0, 24, .inl f1)), (c2, .inl (T 0, 24, .inl f2)), (c3, .inl (T 0, 24, .inl f3)), (c4, .inl (T 0, 24, .inl f4)), (c5, .inl (T 0, 24, .inl f5)), (p0, .inl (T 1, 676, .inr (.inl x9.2.2.2.1))), (p1, .inl (T 1, 676, .inr (.inl x9.2.2.2.2.1))), (p4, .inl (T 0, 672, .inl x9.2.2.2.2.2)), (h1, .inl (T 5, 3, .inr (.inr (.inr (.inr (va_up (va_up (va_up (fun _ => none) 0 (some t0)) 1 (some t1)) 2 (some t2))))))), (t0, .inr (0, [.int (bn 0), .ref a0])), (t1, .inr (0, [.int (bn 1), .ref a1])), (t2, .inr (0, [.int (bn 2), .ref a2])), (a0, .inl (T 0, 12, .inl (bf 0))), (a1, .inl (T 0, 12, .inl (bf 1))), (a2, .inl (T 0, 12, .inl (bf 2)))] H ∧ va_D A [(h0, .inr (9, fs0)), (wo, .inr (8, [.ref la, .ref cl, .ref p0, .ref p1, .ref p4, .int n])), (la, .inr (5, [.int (l9 0), .int (l9 1), .int (l9 2), .int (l9 3), .int (l9 4), .int (l9 5), .int (l9 6)])), (cl, .inr (1, [.int n0, .ref c1, .ref c2, .ref c3, .ref c4, .ref c5, .ref c6, .ref c7])), (c1, .inl (T 0, 24, .inl f1)), (c2, .inl (T 0, 24, .inl f2)), (c3, .inl (T 0, 24, .inl f3)), (c4, .inl (T 0, 24, .inl f4)), (c5, .inl (T 0, 24, .inl f5)), (p0, .inl (T 1, 676, .inr (.inl x9.2.2.2.1))), (p1, .inl (T 1, 676, .inr (.inl x9.2.2.2.2.1))), (p4, .inl (T 0, 672, .inl x9.2.2.2.2.2)), (h1, .inl (T 5, 3, .inr (.inr (.inr (.inr (va_up (va_up (va_up (fun _ => none) 0 (some t0)) 1 (some t1)) 2 (some t2))))))), (t0, .inr (0, [.int (bn 0), .ref a0])), (t1, .inr (0, [.int (bn 1), .ref a1])), (t2, .inr (0, [.int (bn 2), .ref a2])), (a0, .inl (T 0, 12, .inl (bf 0))), (a1, .inl (T 0, 12, .inl (bf 1))), (a2, .inl (T 0, 12, .inl (bf 2)))] ∧ va_S A s.heap H locs ∧ ((0 ≤ x9.1.toInt ∧ x9.1.toInt ≤ (bn 2).toInt ∧ 0 ≤ x9.2.2.1.toInt ∧ x9.2.2.1.toInt < 672) ∧ (¬ x9.2.1.toInt = -1 → inN n0 ((bf 2) (x9.2.1.toNatClampNeg)) ∧ x9.2.2.1.toNatClampNeg = slN ((bf 2) (x9.2.1.toNatClampNeg)) x2 x3 ∧ x9.2.2.2.2.2 (slN ((bf 2) (x9.2.1.toNatClampNeg)) x2 x3) = n) ∧ stW (VALW l9 f1 f2 f3 f4 f5) n0 n (fun _ => True) g0 g1 g4 x9.2.2.2.1 x9.2.2.2.2.1 x9.2.2.2.2.2 ∧ bbI (VALW l9 f1 f2 f3 f4 f5) n0 (bf 2) x2 x3 x9.1 x9.2.1)) (fun x9 => (13 - x9.1.toInt).toNat) (fun x9 ls H locs hI ih => ?_) (0, (-1), 0, g0, g1, g4) ls ⟨lv_sub hl [0, 2, 1, 3, 4, 5, 6] rfl, hP.sub [0, 1, 2, 3, 4, 5, 6, 7, 8, 9, 10, 11, 12, 13, 14, 15, 16, 17, 18] rfl, hD.sub [0, 1, 2, 3, 4, 5, 6, 7, 8, 9, 10, 11, 12, 13, 14, 15, 16, 17, 18] (by decide +kernel) rfl, hS, ⟨(by (try dsimp only); simp only [ti_0]; omega), (fun h9 => absurd ti_n1 h9), hst, bbI_0⟩⟩
        obtain ⟨ii, be, bs, v0, v1, v4⟩ := x9
        obtain ⟨hl, hP, hD, hS, hinv⟩ := hI
        have hl : lv_has ls 9 [(6, .int ii), (4, .int be), (5, .int bs), (0, .ref h0), (1, .int 2), (2, .int x2), (3, .int x3)] := hl
        have hP : va_P D vwCl [(h0, .inr (9, fs0)), (wo, .inr (8, [.ref la, .ref cl, .ref p0, .ref p1, .ref p4, .int n])), (la, .inr (5, [.int (l9 0), .int (l9 1), .int (l9 2), .int (l9 3), .int (l9 4), .int (l9 5), .int (l9 6)])), (cl, .inr (1, [.int n0, .ref c1, .ref c2, .ref c3, .ref c4, .ref c5, .ref c6, .ref c7])), (c1, .inl (T 0, 24, .inl f1)), (c2, .inl (T 0, 24, .inl f2)), (c3, .inl (T 0, 24, .inl f3)), (c4, .inl (T 0, 24, .inl f4)), (c5, .inl (T 0, 24, .inl f5)), (p0, .inl (T 1, 676, .inr (.inl v0))), (p1, .inl (T 1, 676, .inr (.inl v1))), (p4, .inl (T 0, 672, .inl v4)), (h1, .inl (T 5, 3, .inr (.inr (.inr (.inr (va_up (va_up (va_up (fun _ => none) 0 (some t0)) 1 (some t1)) 2 (some t2))))))), (t0, .inr (0, [.int (bn 0), .ref a0])), (t1, .inr (0, [.int (bn 1), .ref a1])), (t2, .inr (0, [.int (bn 2), .ref a2])), (a0, .inl (T 0, 12, .inl (bf 0))), (a1, .inl (T 0, 12, .inl (bf 1))), (a2, .inl (T 0, 12, .inl (bf 2)))] H := hP
        have hD : va_D A [(h0, .inr (9, fs0)), (wo, .inr (8, [.ref la, .ref cl, .ref p0, .ref p1, .ref p4, .int n])), (la, .inr (5, [.int (l9 0), .int (l9 1), .int (l9 2), .int (l9 3), .int (l9 4), .int (l9 5), .int (l9 6)])), (cl, .inr (1, [.int n0, .ref c1, .ref c2, .ref c3, .ref c4, .ref c5, .ref c6, .ref c7])), (c1, .inl (T 0, 24, .inl f1)), (c2, .inl (T 0, 24, .inl f2)), (c3, .inl (T 0, 24, .inl f3)), (c4, .inl (T 0, 24, .inl f4)), (c5, .inl (T 0, 24, .inl f5)), (p0, .inl (T 1, 676, .inr (.inl v0))), (p1, .inl (T 1, 676, .inr (.inl v1))), (p4, .inl (T 0, 672, .inl v4)), (h1, .inl (T 5, 3, .inr (.inr (.inr (.inr (va_up (va_up (va_up (fun _ => none) 0 (some t0)) 1 (some t1)) 2 (some t2))))))), (t0, .inr (0, [.int (bn 0), .ref a0])), (t1, .inr (0, [.int (bn 1), .ref a1])), (t2, .inr (0, [.int (bn 2), .ref a2])), (a0, .inl (T 0, 12, .inl (bf 0))), (a1, .inl (T 0, 12, .inl (bf 1))), (a2, .inl (T 0, 12, .inl (bf 2)))] := hD
        have hinv : (0 ≤ ii.toInt ∧ ii.toInt ≤ (bn 2).toInt ∧ 0 ≤ bs.toInt ∧ bs.toInt < 672) ∧ (¬ be.toInt = -1 → inN n0 ((bf 2) (be.toNatClampNeg)) ∧ bs.toNatClampNeg = slN ((bf 2) (be.toNatClampNeg)) x2 x3 ∧ v4 (slN ((bf 2) (be.toNatClampNeg)) x2 x3) = n) ∧ stW (VALW l9 f1 f2 f3 f4 f5) n0 n (fun _ => True) g0 g1 g4 v0 v1 v4 ∧ bbI (VALW l9 f1 f2 f3 f4 f5) n0 (bf 2) x2 x3 ii be := hinv
        obtain ⟨hrg9, hfb, hst, hbb⟩ := hinv
        have hbb : bbI (VALW l9 f1 f2 f3 f4 f5) n0 (bf 2) x2 x3 ii be := hbb
        have hmm : memW (VALW l9 f1 f2 f3 f4 f5) n0 n v0 v1 v4 := hst.1
        refine lv_iload hx hb dX12_bagBest_27 (lv_at hl 0 rfl) ?_
        refine lv_aload_n hx hb dX12_bagBest_29 rfl (lv_at hl 3 rfl) ?_
        refine va_get (D := D) (ci := 9) (v := .ref h1) (C := RX12) (T := TX12) (N := 11) hx hb hts in_X12_bagBest_X12 hown hE.1 hP 0 rfl rfl 5 (by decide +kernel) (hts (.fieldLink RX12 37 "ClauseBook" "bags" "[LClauseBook$Bag;") (List.mem_of_getElem? (i := 1) rfl)) (fun _ h9 => h9) e0_5 dX12_bagBest_30 ?_
        refine lv_iload_n hx hb dX12_bagBest_33 rfl (lv_at hl 4 rfl) ?_
        refine va_aldq hx hb hE.1 hP 12 5 rfl rfl (by unfold vp_in; decide) dX12_bagBest_34 ?_
        refine W.eq (g2 := F0 m 35 ls [.ref t2, .int ii]) rfl ?_
        refine va_get (D := D) (ci := 0) (v := .int (bn 2)) (C := RX1) (T := TX1) (N := 2) hx hb hts in_X12_bagBest_X1 hown hE.1 hP 15 rfl rfl 0 (by decide +kernel) (hts (.fieldLink RX12 307 "ClauseBook$Bag" "size" "I") (List.mem_of_getElem? (i := 2) rfl)) (fun _ h9 => h9) rfl dX12_bagBest_35 ?_
        refine lv_icmp_ge (tgt := 132) hx hb dX12_bagBest_38 (by decide +kernel) (fun c_41 => ?_) (fun c_41 => ?_)
        · rw [fa_le] at c_41
          refine lv_iload hx hb dX12_bagBest_132 (lv_at hl 1 rfl) ?_
          exact W.iret hx hb hr (fun t ht hW => ⟨⟨_, (v0, v1, v4), rfl, ⟨(show bbQ (VALW l9 f1 f2 f3 f4 f5) n0 (bn 2) (bf 2) (0 ≤ (2 : Int32).toInt ∧ (2 : Int32).toInt ≤ 2) x2 x3 be from (bb_of ⟨(by decide +kernel), ⟨(by omega), (by omega)⟩, (by omega), (by omega)⟩ (bb_end hbb (by omega) (by omega)))), hst⟩, by rw [ht]; exact hP.sub [0, 1, 2, 3, 4, 5, 6, 7, 8, 9, 10, 11, 12, 13, 14, 15, 16, 17, 18] rfl, hD.sub [0, 1, 2, 3, 4, 5, 6, 7, 8, 9, 10, 11, 12, 13, 14, 15, 16, 17, 18] (by decide +kernel) rfl⟩, hS.F ht⟩) hS.2.2 dX12_bagBest_134
        · rw [fa_le] at c_41
          refine lv_aload_n hx hb dX12_bagBest_41 rfl (lv_at hl 3 rfl) ?_
          refine va_get (D := D) (ci := 9) (v := .ref h1) (C := RX12) (T := TX12) (N := 11) hx hb hts in_X12_bagBest_X12 hown hE.1 hP 0 rfl rfl 5 (by decide +kernel) (hts (.fieldLink RX12 37 "ClauseBook" "bags" "[LClauseBook$Bag;") (List.mem_of_getElem? (i := 1) rfl)) (fun _ h9 => h9) e0_5 dX12_bagBest_42 ?_
          refine lv_iload_n hx hb dX12_bagBest_45 rfl (lv_at hl 4 rfl) ?_
          refine va_aldq hx hb hE.1 hP 12 5 rfl rfl (by unfold vp_in; decide) dX12_bagBest_46 ?_
          refine W.eq (g2 := F0 m 47 ls [.ref t2]) rfl ?_
          refine va_get (D := D) (ci := 0) (v := .ref a2) (C := RX1) (T := TX1) (N := 2) hx hb hts in_X12_bagBest_X1 hown hE.1 hP 15 rfl rfl 1 (by decide +kernel) (hts (.fieldLink RX12 308 "ClauseBook$Bag" "numbers" "[I") (List.mem_of_getElem? (i := 3) rfl)) (fun _ h9 => h9) rfl dX12_bagBest_47 ?_
          refine lv_iload hx hb dX12_bagBest_50 (lv_at hl 0 rfl) ?_
          refine va_iald hx hb hE.1 hP 18 0 rfl rfl (by rw [vp_in_iff]; first | omega | (subst_vars; omega)) dX12_bagBest_52 ?_
          refine lv_topi (fun z_42 ez_42 => ?_)
          refine lv_istore (lv' := [(7, .int z_42), (6, .int ii), (4, .int be), (5, .int bs), (0, .ref h0), (1, .int 2), (2, .int x2), (3, .int x3)]) hx hb dX12_bagBest_53 hl (by decide +kernel) rfl (fun ls hl => ?_)
          refine lv_aload_n hx hb dX12_bagBest_55 rfl (lv_at hl 4 rfl) ?_
          refine va_get (D := D) (ci := 9) (v := .ref cl) (C := RX12) (T := TX12) (N := 11) hx hb hts in_X12_bagBest_X12 hown hE.1 hP 0 rfl rfl 4 (by decide +kernel) (hts (.fieldLink RX12 32 "ClauseBook" "clauses" "LClauseBook$Clauses;") (List.mem_of_getElem? (i := 4) rfl)) (fun _ h9 => h9) e0_4 dX12_bagBest_56 ?_
          refine lv_iload hx hb dX12_bagBest_59 (lv_at hl 0 rfl) ?_
          refine vp_callSi (W.runV (As := [.int z_42]) (rest := []) ⟨hx, hb, hml, hown, hts⟩ (c_X2_has l D T cl [.int n0, .ref c1, .ref c2, .ref c3, .ref c4, .ref c5, .ref c6, .ref c7] z_42 n0 rfl (by omega)) (cwV 1 hts gX12_bagBest_X2_has rfl rfl rfl hv_X2_has ⟨Nat.le_of_ble_eq_true rfl, Nat.le_of_ble_eq_true rfl⟩) (pR_V (q := (RX2, TX2, 8)) (ci := 1) (q0 := 3) hP hE rfl rfl [3] rfl) rfl rfl hl.1 rfl (lv_room (Nat.le_of_ble_eq_true rfl)) dX12_bagBest_61 ⟨Nat.le_of_ble_eq_true rfl, Nat.le_of_ble_eq_true rfl⟩) (fun r_43 hr_43 => ?_)
          rcases bool_post hr_43 with ⟨c_44, rfl⟩ | ⟨c_44, rfl⟩
          · refine lv_if_ne (tgt := 70) hx hb dX12_bagBest_64 (by decide +kernel) (fun _ => ?_) (fun c9 => absurd c9 (by decide +kernel))
            refine lv_aload_n hx hb dX12_bagBest_70 rfl (lv_at hl 4 rfl) ?_
            refine va_get (D := D) (ci := 9) (v := .ref wo) (C := RX12) (T := TX12) (N := 11) hx hb hts in_X12_bagBest_X12 hown hE.1 hP 0 rfl rfl 6 (by decide +kernel) (hts (.fieldLink RX12 43 "ClauseBook" "worth" "LClauseBook$Worth;") (List.mem_of_getElem? (i := 5) rfl)) (fun _ h9 => h9) e0_6 dX12_bagBest_71 ?_
            refine lv_iload hx hb dX12_bagBest_74 (lv_at hl 0 rfl) ?_
            refine lv_iload_n hx hb dX12_bagBest_76 rfl (lv_at hl 6 rfl) ?_
            refine lv_iload_n hx hb dX12_bagBest_77 rfl (lv_at hl 7 rfl) ?_
            have hFc := va_free (wc := [(wo, .inr (8, [.ref la, .ref cl, .ref p0, .ref p1, .ref p4, .int n])), (la, .inr (5, [.int (l9 0), .int (l9 1), .int (l9 2), .int (l9 3), .int (l9 4), .int (l9 5), .int (l9 6)])), (cl, .inr (1, [.int n0, .ref c1, .ref c2, .ref c3, .ref c4, .ref c5, .ref c6, .ref c7])), (c1, .inl (T 0, 24, .inl f1)), (c2, .inl (T 0, 24, .inl f2)), (c3, .inl (T 0, 24, .inl f3)), (c4, .inl (T 0, 24, .inl f4)), (c5, .inl (T 0, 24, .inl f5)), (p0, .inl (T 1, 676, .inr (.inl v0))), (p1, .inl (T 1, 676, .inr (.inl v1))), (p4, .inl (T 0, 672, .inl v4))]) hD hS hA [1, 2, 3, 4, 5, 6, 7, 8, 9, 10, 11] rfl
            refine va_calli (va_runV (As := [.int z_42, .int x2, .int x3]) (rest := []) ⟨hx, hb, hml, hown, hts⟩ (cS_all l D T ad sa av ta 30 _ wo la cl p0 p1 p4 n l9 n0 c1 c2 c3 c4 c5 c6 c7 f1 f2 f3 f4 f5 v0 v1 v4 z_42 x2 x3 (by omega) (by omega) (by omega) hok (by omega) hmm hlq (by omega)) (cwV 3 hts gX12_bagBest_X11_settle rfl rfl rfl hv_X11_settle ⟨Nat.le_of_ble_eq_true rfl, Nat.le_of_ble_eq_true rfl⟩) (pWk_V (q := (RX11, TX11, 6)) (ci := 8) (q0 := 1) hP hE hD hV hS hFc rfl rfl [1, 2, 3, 4, 5, 6, 7, 8, 9, 10, 11] (by decide +kernel) rfl rfl) rfl rfl hl.1 rfl (lv_room (Nat.le_of_ble_eq_true rfl)) dX12_bagBest_78 ⟨Nat.le_of_ble_eq_true rfl, Nat.le_of_ble_eq_true rfl⟩) hS (fun q _ h => hFc q h) hFc (fun r_45 u_46 t H1 locs ht hvm hr_45 hB hz1 hk1 hS => ?_)
            obtain ⟨f_47, f_48, f_49⟩ := u_46
            obtain ⟨hqr_45, hsl_r_45, hfo_r_45, hstr_45⟩ := hr_45
            have hqr_45 : 0 ≤ r_45.toInt ∧ r_45.toInt < 672 := hqr_45
            have hsl_r_45 : r_45.toNatClampNeg = slN z_42 x2 x3 := hsl_r_45
            have hfo_r_45 : f_49 (slN z_42 x2 x3) = n := hfo_r_45
            have hsr_45 : stW (VALW l9 f1 f2 f3 f4 f5) n0 n (rgW z_42 x2) v0 v1 v4 f_47 f_48 f_49 := hstr_45
            have hst : stW (VALW l9 f1 f2 f3 f4 f5) n0 n (fun _ => True) g0 g1 g4 f_47 f_48 f_49 := hst.tr hsr_45 (fun _ _ => trivial)
            have hmm : memW (VALW l9 f1 f2 f3 f4 f5) n0 n f_47 f_48 f_49 := hst.1
            have hv_r_45 : (f_47 (r_45.toNatClampNeg), f_48 (r_45.toNatClampNeg)) = (VALW l9 f1 f2 f3 f4 f5) z_42 x2 x3 := hst.val (by omega) (by omega) (by first | (rw [ti_0]; omega) | omega) hsl_r_45 hfo_r_45
            have hb_r_45 : 0 ≤ (f_48 (r_45.toNatClampNeg)).toInt := val_nn (VAL_low hlq.1 hlq.2 31 _ _ _) hv_r_45
            obtain ⟨hP1, hD1⟩ := hB
            rw [ht] at hP1
            obtain ⟨hP, hD⟩ := va_repl [(h0, .inr (9, fs0)), (wo, .inr (8, [.ref la, .ref cl, .ref p0, .ref p1, .ref p4, .int n])), (la, .inr (5, [.int (l9 0), .int (l9 1), .int (l9 2), .int (l9 3), .int (l9 4), .int (l9 5), .int (l9 6)])), (cl, .inr (1, [.int n0, .ref c1, .ref c2, .ref c3, .ref c4, .ref c5, .ref c6, .ref c7])), (c1, .inl (T 0, 24, .inl f1)), (c2, .inl (T 0, 24, .inl f2)), (c3, .inl (T 0, 24, .inl f3)), (c4, .inl (T 0, 24, .inl f4)), (c5, .inl (T 0, 24, .inl f5)), (p0, .inl (T 1, 676, .inr (.inl f_47))), (p1, .inl (T 1, 676, .inr (.inl f_48))), (p4, .inl (T 0, 672, .inl f_49)), (h1, .inl (T 5, 3, .inr (.inr (.inr (.inr (va_up (va_up (va_up (fun _ => none) 0 (some t0)) 1 (some t1)) 2 (some t2))))))), (t0, .inr (0, [.int (bn 0), .ref a0])), (t1, .inr (0, [.int (bn 1), .ref a1])), (t2, .inr (0, [.int (bn 2), .ref a2])), (a0, .inl (T 0, 12, .inl (bf 0))), (a1, .inl (T 0, 12, .inl (bf 1))), (a2, .inl (T 0, 12, .inl (bf 2)))] hP hD [1, 2, 3, 4, 5, 6, 7, 8, 9, 10, 11] [1, 2, 3, 4, 5, 6, 7, 8, 9, 10, 11] rfl (by decide +kernel) rfl rfl rfl hk1 hP1
            clear hP1 hD1 hFc
            generalize H1 = H at hP hS ⊢
            refine lv_istore (lv' := [(8, .int r_45), (7, .int z_42), (6, .int ii), (4, .int be), (5, .int bs), (0, .ref h0), (1, .int 2), (2, .int x2), (3, .int x3)]) hx hb dX12_bagBest_81 hl (by decide +kernel) rfl (fun ls hl => ?_)
            have hin9 : inN n0 ((bf 2) (ii.toNatClampNeg)) := by rw [← ez_42]; omega
            have hsl9 : r_45.toNatClampNeg = slN ((bf 2) (ii.toNatClampNeg)) x2 x3 := by rw [← ez_42]; exact hsl_r_45
            have hfo9 : f_49 (slN ((bf 2) (ii.toNatClampNeg)) x2 x3) = n := by rw [← ez_42]; exact hfo_r_45
            have hfk9 : ¬ be.toInt = -1 → f_49 (slN ((bf 2) (be.toNatClampNeg)) x2 x3) = n := fun h9 => hsr_45.2.1 _ (slN_lt (by have h8 := (hfb h9).1; omega) (by omega) (by omega)) (hfb h9).2.2
            refine lv_aload_n hx hb dX12_bagBest_83 rfl (lv_at hl 5 rfl) ?_
            refine va_get (D := D) (ci := 9) (v := .ref wo) (C := RX12) (T := TX12) (N := 11) hx hb hts in_X12_bagBest_X12 hown hE.1 hP 0 rfl rfl 6 (by decide +kernel) (hts (.fieldLink RX12 43 "ClauseBook" "worth" "LClauseBook$Worth;") (List.mem_of_getElem? (i := 5) rfl)) (fun _ h9 => h9) e0_6 dX12_bagBest_84 ?_
            refine lv_iload hx hb dX12_bagBest_87 (lv_at hl 0 rfl) ?_
            refine vp_callSi (W.runV (As := [.int r_45]) (rest := []) ⟨hx, hb, hml, hown, hts⟩ (c_X11_isMuch l D T wo [.ref la, .ref cl, .ref p0, .ref p1, .ref p4, .int n] p1 f_48 r_45 rfl (by first | decide | omega)) (cwV 1 hts gX12_bagBest_X11_isMuch rfl rfl rfl hv_X11_isMuch ⟨Nat.le_of_ble_eq_true rfl, Nat.le_of_ble_eq_true rfl⟩) (pR_V (q := (RX11, TX11, 6)) (ci := 8) (q0 := 1) hP hE rfl rfl [1, 10] rfl) rfl rfl hl.1 rfl (lv_room (Nat.le_of_ble_eq_true rfl)) dX12_bagBest_89 ⟨Nat.le_of_ble_eq_true rfl, Nat.le_of_ble_eq_true rfl⟩) (fun r_50 hr_50 => ?_)
            rcases bool_post hr_50 with ⟨c_51, rfl⟩ | ⟨c_51, rfl⟩
            · refine lv_if_eq (tgt := 98) hx hb dX12_bagBest_92 (by decide +kernel) (fun c9 => absurd c9 (by decide +kernel)) (fun _ => ?_)
              refine lv_bipush (v := (-5)) hx hb dX12_bagBest_95 (by decide +kernel) ?_
              exact W.iret hx hb hr (fun t ht hW => ⟨⟨_, (f_47, f_48, f_49), rfl, ⟨(show bbQ (VALW l9 f1 f2 f3 f4 f5) n0 (bn 2) (bf 2) (0 ≤ (2 : Int32).toInt ∧ (2 : Int32).toInt ≤ 2) x2 x3 ((-5) : Int32) from (Or.inr ⟨⟨(by decide +kernel), ⟨(by omega), (by omega)⟩, (by omega), (by omega)⟩, Or.inl ⟨⟨ii, ⟨(by omega), (by (try dsimp only); omega)⟩, hin9, (by show ((VALW l9 f1 f2 f3 f4 f5) ((bf 2) (ii.toNatClampNeg)) x2 x3).2.toInt = 0; rw [← ez_42]; exact mu_of hv_r_45 (by omega))⟩, (by decide +kernel)⟩⟩)), hst⟩, by rw [ht]; exact hP.sub [0, 1, 2, 3, 4, 5, 6, 7, 8, 9, 10, 11, 12, 13, 14, 15, 16, 17, 18] rfl, hD.sub [0, 1, 2, 3, 4, 5, 6, 7, 8, 9, 10, 11, 12, 13, 14, 15, 16, 17, 18] (by decide +kernel) rfl⟩, hS.F ht⟩) hS.2.2 dX12_bagBest_97
            · refine lv_if_eq (tgt := 98) hx hb dX12_bagBest_92 (by decide +kernel) (fun _ => ?_) (fun c9 => absurd c9 (by decide +kernel))
              have hnm9 : ¬ ((VALW l9 f1 f2 f3 f4 f5) ((bf 2) (ii.toNatClampNeg)) x2 x3).2.toInt = 0 := by rw [← ez_42]; exact nmu_of hv_r_45 (by omega)
              refine lv_iload hx hb dX12_bagBest_98 (lv_at hl 3 rfl) ?_
              refine lv_iconst (v := (-1)) hx hb dX12_bagBest_100 (by decide +kernel) ?_
              refine lv_icmp_eq (tgt := 118) hx hb dX12_bagBest_101 (by decide +kernel) (fun c_52 => ?_) (fun c_52 => ?_)
              · rw [fa_eq] at c_52
                try rw [ti_n1] at c_52
                refine lv_iload hx hb dX12_bagBest_118 (lv_at hl 2 rfl) ?_
                refine lv_istore (lv' := [(4, .int ii), (8, .int r_45), (7, .int z_42), (6, .int ii), (5, .int bs), (0, .ref h0), (1, .int 2), (2, .int x2), (3, .int x3)]) hx hb dX12_bagBest_120 hl (by decide +kernel) rfl (fun ls hl => ?_)
                refine lv_iload hx hb dX12_bagBest_122 (lv_at hl 1 rfl) ?_
                refine lv_istore (lv' := [(5, .int r_45), (4, .int ii), (8, .int r_45), (7, .int z_42), (6, .int ii), (0, .ref h0), (1, .int 2), (2, .int x2), (3, .int x3)]) hx hb dX12_bagBest_124 hl (by decide +kernel) rfl (fun ls hl => ?_)
                obtain ⟨z_53, ez_53⟩ : ∃ y : Int32, y = ii + 1 := ⟨_, rfl⟩
                refine lv_iinc (v := z_53) (lv' := [(6, .int z_53), (5, .int r_45), (4, .int ii), (8, .int r_45), (7, .int z_42), (0, .ref h0), (1, .int 2), (2, .int x2), (3, .int x3)]) hx hb dX12_bagBest_126 hl (k := 4) rfl (by rw [ez_53]; rfl) (by decide +kernel) rfl (fun ls hl => ?_)
                refine lv_goto (tgt := 27) hx hb dX12_bagBest_129 (by decide +kernel) ?_
                have hi9 : z_53.toInt = ii.toInt + 1 := (by rw [ez_53]; exact inc1 (i := ii) (n := 1000) (by omega) (by decide +kernel))
                exact ih (z_53, ii, r_45, f_47, f_48, f_49) ls _ _ ⟨lv_sub hl [0, 2, 1, 5, 6, 7, 8] rfl, hP.sub [0, 1, 2, 3, 4, 5, 6, 7, 8, 9, 10, 11, 12, 13, 14, 15, 16, 17, 18] rfl, hD.sub [0, 1, 2, 3, 4, 5, 6, 7, 8, 9, 10, 11, 12, 13, 14, 15, 16, 17, 18] (by decide +kernel) rfl, hS, ⟨⟨(by (try dsimp only); omega), (by (try dsimp only); omega), (by (try dsimp only); omega), (by (try dsimp only); omega)⟩, (fun _ => ⟨hin9, hsl9, hfo9⟩), hst, bbI_take hbb (by (try dsimp only); omega) hi9 hin9 hnm9 (fun i9 => VAL_low hlq.1 hlq.2 31 _ _ _) (by first | exact Or.inl (by omega) | exact Or.inr (by rw [hco9]; omega))⟩⟩ (by (try dsimp only); omega)
              · rw [fa_eq] at c_52
                try rw [ti_n1] at c_52
                have hfb2 := hfb (by omega)
                have hvb9 : (f_47 (bs.toNatClampNeg), f_48 (bs.toNatClampNeg)) = (VALW l9 f1 f2 f3 f4 f5) ((bf 2) (be.toNatClampNeg)) x2 x3 := hst.val (by have h8 := hfb2.1; omega) (by omega) (by omega) hfb2.2.1 (hfk9 (by omega))
                have hbb9 : 0 ≤ (f_48 (bs.toNatClampNeg)).toInt := val_nn (VAL_low hlq.1 hlq.2 31 _ _ _) hvb9
                have hnb9 : ¬ (f_48 (bs.toNatClampNeg)).toInt = 0 := nmu_to hvb9 ((hbb.2.resolve_left (fun q9 => absurd q9.1 (by omega))).2.1 |> fun q9 => hbb.1 be (hbb.2.resolve_left (fun q8 => absurd q8.1 (by omega))).1 q9)
                refine lv_aload_n hx hb dX12_bagBest_104 rfl (lv_at hl 5 rfl) ?_
                refine va_get (D := D) (ci := 9) (v := .ref wo) (C := RX12) (T := TX12) (N := 11) hx hb hts in_X12_bagBest_X12 hown hE.1 hP 0 rfl rfl 6 (by decide +kernel) (hts (.fieldLink RX12 43 "ClauseBook" "worth" "LClauseBook$Worth;") (List.mem_of_getElem? (i := 5) rfl)) (fun _ h9 => h9) e0_6 dX12_bagBest_105 ?_
                refine lv_iload hx hb dX12_bagBest_108 (lv_at hl 0 rfl) ?_
                refine lv_iload hx hb dX12_bagBest_110 (lv_at hl 4 rfl) ?_
                refine vp_callSi (W.runV (As := [.int r_45, .int bs]) (rest := []) ⟨hx, hb, hml, hown, hts⟩ (c_X11_order l D T wo [.ref la, .ref cl, .ref p0, .ref p1, .ref p4, .int n] p1 f_48 p0 f_47 r_45 bs rfl rfl (by first | decide | omega) (by first | decide | omega) (by first | omega | assumption | decide) (by first | omega | assumption | decide)) (cwV 2 hts gX12_bagBest_X11_order rfl rfl rfl hv_X11_order ⟨Nat.le_of_ble_eq_true rfl, Nat.le_of_ble_eq_true rfl⟩) (pR_V (q := (RX11, TX11, 6)) (ci := 8) (q0 := 1) hP hE rfl rfl [1, 10, 9] rfl) rfl rfl hl.1 rfl (lv_room (Nat.le_of_ble_eq_true rfl)) dX12_bagBest_112 ⟨Nat.le_of_ble_eq_true rfl, Nat.le_of_ble_eq_true rfl⟩) (fun r_54 hr_54 => ?_)
                have hco9 : cmpP ((VALW l9 f1 f2 f3 f4 f5) ((bf 2) (ii.toNatClampNeg)) x2 x3) ((VALW l9 f1 f2 f3 f4 f5) ((bf 2) (be.toNatClampNeg)) x2 x3) = r_54.toInt := by rw [← ez_42]; exact (cmp_of hv_r_45 hvb9).trans hr_54.symm
                refine lv_if_le (tgt := 126) hx hb dX12_bagBest_115 (by decide +kernel) (fun c_55 => ?_) (fun c_55 => ?_)
                · rw [fa_le] at c_55
                  try rw [ti_0] at c_55
                  obtain ⟨z_56, ez_56⟩ : ∃ y : Int32, y = ii + 1 := ⟨_, rfl⟩
                  refine lv_iinc (v := z_56) (lv' := [(6, .int z_56), (8, .int r_45), (7, .int z_42), (4, .int be), (5, .int bs), (0, .ref h0), (1, .int 2), (2, .int x2), (3, .int x3)]) hx hb dX12_bagBest_126 hl (k := 2) rfl (by rw [ez_56]; rfl) (by decide +kernel) rfl (fun ls hl => ?_)
                  refine lv_goto (tgt := 27) hx hb dX12_bagBest_129 (by decide +kernel) ?_
                  have hi9 : z_56.toInt = ii.toInt + 1 := (by rw [ez_56]; exact inc1 (i := ii) (n := 1000) (by omega) (by decide +kernel))
                  exact ih (z_56, be, bs, f_47, f_48, f_49) ls _ _ ⟨lv_sub hl [0, 3, 4, 5, 6, 7, 8] rfl, hP.sub [0, 1, 2, 3, 4, 5, 6, 7, 8, 9, 10, 11, 12, 13, 14, 15, 16, 17, 18] rfl, hD.sub [0, 1, 2, 3, 4, 5, 6, 7, 8, 9, 10, 11, 12, 13, 14, 15, 16, 17, 18] (by decide +kernel) rfl, hS, ⟨⟨(by (try dsimp only); omega), (by (try dsimp only); omega), (by (try dsimp only); omega), (by (try dsimp only); omega)⟩, (fun h9 => ⟨(hfb h9).1, (hfb h9).2.1, hfk9 h9⟩), hst, bbI_keep hbb hi9 hnm9 (by omega) (by rw [hco9]; omega)⟩⟩ (by (try dsimp only); omega)
                · rw [fa_le] at c_55
                  try rw [ti_0] at c_55
                  refine lv_iload hx hb dX12_bagBest_118 (lv_at hl 2 rfl) ?_
                  refine lv_istore (lv' := [(4, .int ii), (8, .int r_45), (7, .int z_42), (6, .int ii), (5, .int bs), (0, .ref h0), (1, .int 2), (2, .int x2), (3, .int x3)]) hx hb dX12_bagBest_120 hl (by decide +kernel) rfl (fun ls hl => ?_)
                  refine lv_iload hx hb dX12_bagBest_122 (lv_at hl 1 rfl) ?_
                  refine lv_istore (lv' := [(5, .int r_45), (4, .int ii), (8, .int r_45), (7, .int z_42), (6, .int ii), (0, .ref h0), (1, .int 2), (2, .int x2), (3, .int x3)]) hx hb dX12_bagBest_124 hl (by decide +kernel) rfl (fun ls hl => ?_)
                  obtain ⟨z_57, ez_57⟩ : ∃ y : Int32, y = ii + 1 := ⟨_, rfl⟩
                  refine lv_iinc (v := z_57) (lv' := [(6, .int z_57), (5, .int r_45), (4, .int ii), (8, .int r_45), (7, .int z_42), (0, .ref h0), (1, .int 2), (2, .int x2), (3, .int x3)]) hx hb dX12_bagBest_126 hl (k := 4) rfl (by rw [ez_57]; rfl) (by decide +kernel) rfl (fun ls hl => ?_)
                  refine lv_goto (tgt := 27) hx hb dX12_bagBest_129 (by decide +kernel) ?_
                  have hi9 : z_57.toInt = ii.toInt + 1 := (by rw [ez_57]; exact inc1 (i := ii) (n := 1000) (by omega) (by decide +kernel))
                  exact ih (z_57, ii, r_45, f_47, f_48, f_49) ls _ _ ⟨lv_sub hl [0, 2, 1, 5, 6, 7, 8] rfl, hP.sub [0, 1, 2, 3, 4, 5, 6, 7, 8, 9, 10, 11, 12, 13, 14, 15, 16, 17, 18] rfl, hD.sub [0, 1, 2, 3, 4, 5, 6, 7, 8, 9, 10, 11, 12, 13, 14, 15, 16, 17, 18] (by decide +kernel) rfl, hS, ⟨⟨(by (try dsimp only); omega), (by (try dsimp only); omega), (by (try dsimp only); omega), (by (try dsimp only); omega)⟩, (fun _ => ⟨hin9, hsl9, hfo9⟩), hst, bbI_take hbb (by (try dsimp only); omega) hi9 hin9 hnm9 (fun i9 => VAL_low hlq.1 hlq.2 31 _ _ _) (by first | exact Or.inl (by omega) | exact Or.inr (by rw [hco9]; omega))⟩⟩ (by (try dsimp only); omega)
          · refine lv_if_ne (tgt := 70) hx hb dX12_bagBest_64 (by decide +kernel) (fun c9 => absurd c9 (by decide +kernel)) (fun _ => ?_)
            refine lv_goto (tgt := 126) hx hb dX12_bagBest_67 (by decide +kernel) ?_
            obtain ⟨z_58, ez_58⟩ : ∃ y : Int32, y = ii + 1 := ⟨_, rfl⟩
            refine lv_iinc (v := z_58) (lv' := [(6, .int z_58), (7, .int z_42), (4, .int be), (5, .int bs), (0, .ref h0), (1, .int 2), (2, .int x2), (3, .int x3)]) hx hb dX12_bagBest_126 hl (k := 1) rfl (by rw [ez_58]; rfl) (by decide +kernel) rfl (fun ls hl => ?_)
            refine lv_goto (tgt := 27) hx hb dX12_bagBest_129 (by decide +kernel) ?_
            have hi9 : z_58.toInt = ii.toInt + 1 := (by rw [ez_58]; exact inc1 (i := ii) (n := 1000) (by omega) (by decide +kernel))
            exact ih (z_58, be, bs, v0, v1, v4) ls _ _ ⟨lv_sub hl [0, 2, 3, 4, 5, 6, 7] rfl, hP.sub [0, 1, 2, 3, 4, 5, 6, 7, 8, 9, 10, 11, 12, 13, 14, 15, 16, 17, 18] rfl, hD.sub [0, 1, 2, 3, 4, 5, 6, 7, 8, 9, 10, 11, 12, 13, 14, 15, 16, 17, 18] (by decide +kernel) rfl, hS, ⟨⟨(by (try dsimp only); omega), (by (try dsimp only); omega), (by (try dsimp only); omega), (by (try dsimp only); omega)⟩, hfb, hst, bbI_skip hbb hi9 (by rw [← ez_42]; omega)⟩⟩ (by (try dsimp only); omega)
    · refine lv_if_ne (tgt := 18) hx hb dX12_bagBest_12 (by decide +kernel) (fun c9 => absurd c9 (by decide +kernel)) (fun _ => ?_)
      refine lv_bipush (v := (-2)) hx hb dX12_bagBest_15 (by decide +kernel) ?_
      exact W.iret hx hb hr (fun t ht hW => ⟨⟨_, (g0, g1, g4), rfl, ⟨(show bbQ (VALW l9 f1 f2 f3 f4 f5) n0 (bn (x1.toNatClampNeg)) (bf (x1.toNatClampNeg)) (0 ≤ x1.toInt ∧ x1.toInt ≤ 2) x2 x3 ((-2) : Int32) from (Or.inl ⟨(fun h9 => by obtain ⟨h1, h2⟩ := h9; omega), (by decide +kernel)⟩)), hst⟩, by rw [ht]; exact hP.sub [0, 1, 2, 3, 4, 5, 6, 7, 8, 9, 10, 11, 12, 13, 14, 15, 16, 17, 18] rfl, hD.sub [0, 1, 2, 3, 4, 5, 6, 7, 8, 9, 10, 11, 12, 13, 14, 15, 16, 17, 18] (by decide +kernel) rfl⟩, hS.F ht⟩) hS.2.2 dX12_bagBest_17
  · refine lv_if_eq (tgt := 15) hx hb dX12_bagBest_4 (by decide +kernel) (fun _ => ?_) (fun c9 => absurd c9 (by decide +kernel))
    refine lv_bipush (v := (-2)) hx hb dX12_bagBest_15 (by decide +kernel) ?_
    exact W.iret hx hb hr (fun t ht hW => ⟨⟨_, (g0, g1, g4), rfl, ⟨(show bbQ (VALW l9 f1 f2 f3 f4 f5) n0 (bn (x1.toNatClampNeg)) (bf (x1.toNatClampNeg)) (0 ≤ x1.toInt ∧ x1.toInt ≤ 2) x2 x3 ((-2) : Int32) from (Or.inl ⟨(fun h9 => by obtain ⟨h1, h2⟩ := h9; omega), (by decide +kernel)⟩)), hst⟩, by rw [ht]; exact hP.sub [0, 1, 2, 3, 4, 5, 6, 7, 8, 9, 10, 11, 12, 13, 14, 15, 16, 17, 18] rfl, hD.sub [0, 1, 2, 3, 4, 5, 6, 7, 8, 9, 10, 11, 12, 13, 14, 15, 16, 17, 18] (by decide +kernel) rfl⟩, hS.F ht⟩) hS.2.2 dX12_bagBest_17
theorem dX12_compare_0 : decode cX12_compare 0 = .ok (.iload_n 1, 1) := by decide +kernel
theorem dX12_compare_1 : decode cX12_compare 1 = .ok (.invokestatic 352, 3) := by decide +kernel
theorem dX12_compare_101 : decode cX12_compare 101 = .ok (.aload_n 0, 1) := by decide +kernel
theorem dX12_compare_102 : decode cX12_compare 102 = .ok (.getfield 43, 3) := by decide +kernel
theorem dX12_compare_105 : decode cX12_compare 105 = .ok (.iload 7, 2) := by decide +kernel
theorem dX12_compare_107 : decode cX12_compare 107 = .ok (.sipush 675, 3) := by decide +kernel
theorem dX12_compare_11 : decode cX12_compare 11 = .ok (.iload_n 2, 1) := by decide +kernel
theorem dX12_compare_110 : decode cX12_compare 110 = .ok (.invokevirtual 247, 3) := by decide +kernel
theorem dX12_compare_113 : decode cX12_compare 113 = .ok (.ireturn, 1) := by decide +kernel
theorem dX12_compare_12 : decode cX12_compare 12 = .ok (.invokevirtual 150, 3) := by decide +kernel
theorem dX12_compare_15 : decode cX12_compare 15 = .ok (.ifCond .eq 12, 3) := by decide +kernel
theorem dX12_compare_18 : decode cX12_compare 18 = .ok (.iload_n 3, 1) := by decide +kernel
theorem dX12_compare_19 : decode cX12_compare 19 = .ok (.iload 4, 2) := by decide +kernel
theorem dX12_compare_21 : decode cX12_compare 21 = .ok (.invokestatic 108, 3) := by decide +kernel
theorem dX12_compare_24 : decode cX12_compare 24 = .ok (.ifCond .ne 6, 3) := by decide +kernel
theorem dX12_compare_27 : decode cX12_compare 27 = .ok (.bipush (-2), 2) := by decide +kernel
theorem dX12_compare_29 : decode cX12_compare 29 = .ok (.ireturn, 1) := by decide +kernel
theorem dX12_compare_30 : decode cX12_compare 30 = .ok (.aload_n 0, 1) := by decide +kernel
theorem dX12_compare_31 : decode cX12_compare 31 = .ok (.getfield 71, 3) := by decide +kernel
theorem dX12_compare_34 : decode cX12_compare 34 = .ok (.iload_n 1, 1) := by decide +kernel
theorem dX12_compare_35 : decode cX12_compare 35 = .ok (.aaload, 1) := by decide +kernel
theorem dX12_compare_36 : decode cX12_compare 36 = .ok (.astore 5, 2) := by decide +kernel
theorem dX12_compare_38 : decode cX12_compare 38 = .ok (.aload 5, 2) := by decide +kernel
theorem dX12_compare_4 : decode cX12_compare 4 = .ok (.ifCond .eq 23, 3) := by decide +kernel
theorem dX12_compare_40 : decode cX12_compare 40 = .ok (.invokevirtual 373, 3) := by decide +kernel
theorem dX12_compare_43 : decode cX12_compare 43 = .ok (.istore 6, 2) := by decide +kernel
theorem dX12_compare_45 : decode cX12_compare 45 = .ok (.iload 6, 2) := by decide +kernel
theorem dX12_compare_47 : decode cX12_compare 47 = .ok (.ifCond .eq 6, 3) := by decide +kernel
theorem dX12_compare_50 : decode cX12_compare 50 = .ok (.iload 6, 2) := by decide +kernel
theorem dX12_compare_52 : decode cX12_compare 52 = .ok (.ireturn, 1) := by decide +kernel
theorem dX12_compare_53 : decode cX12_compare 53 = .ok (.aload_n 0, 1) := by decide +kernel
theorem dX12_compare_54 : decode cX12_compare 54 = .ok (.getfield 43, 3) := by decide +kernel
theorem dX12_compare_57 : decode cX12_compare 57 = .ok (.iload_n 2, 1) := by decide +kernel
theorem dX12_compare_58 : decode cX12_compare 58 = .ok (.iload_n 3, 1) := by decide +kernel
theorem dX12_compare_59 : decode cX12_compare 59 = .ok (.iload 4, 2) := by decide +kernel
theorem dX12_compare_61 : decode cX12_compare 61 = .ok (.invokevirtual 185, 3) := by decide +kernel
theorem dX12_compare_64 : decode cX12_compare 64 = .ok (.istore 7, 2) := by decide +kernel
theorem dX12_compare_66 : decode cX12_compare 66 = .ok (.aload_n 0, 1) := by decide +kernel
theorem dX12_compare_67 : decode cX12_compare 67 = .ok (.getfield 43, 3) := by decide +kernel
theorem dX12_compare_7 : decode cX12_compare 7 = .ok (.aload_n 0, 1) := by decide +kernel
theorem dX12_compare_70 : decode cX12_compare 70 = .ok (.iload 7, 2) := by decide +kernel
theorem dX12_compare_72 : decode cX12_compare 72 = .ok (.invokevirtual 197, 3) := by decide +kernel
theorem dX12_compare_75 : decode cX12_compare 75 = .ok (.ifCond .eq 6, 3) := by decide +kernel
theorem dX12_compare_78 : decode cX12_compare 78 = .ok (.bipush (-5), 2) := by decide +kernel
theorem dX12_compare_8 : decode cX12_compare 8 = .ok (.getfield 32, 3) := by decide +kernel
theorem dX12_compare_80 : decode cX12_compare 80 = .ok (.ireturn, 1) := by decide +kernel
theorem dX12_compare_81 : decode cX12_compare 81 = .ok (.aload_n 0, 1) := by decide +kernel
theorem dX12_compare_82 : decode cX12_compare 82 = .ok (.getfield 43, 3) := by decide +kernel
theorem dX12_compare_85 : decode cX12_compare 85 = .ok (.sipush 675, 3) := by decide +kernel
theorem dX12_compare_88 : decode cX12_compare 88 = .ok (.aload 5, 2) := by decide +kernel
theorem dX12_compare_90 : decode cX12_compare 90 = .ok (.getfield 365, 3) := by decide +kernel
theorem dX12_compare_93 : decode cX12_compare 93 = .ok (.aload 5, 2) := by decide +kernel
theorem dX12_compare_95 : decode cX12_compare 95 = .ok (.getfield 368, 3) := by decide +kernel
theorem dX12_compare_98 : decode cX12_compare 98 = .ok (.invokevirtual 361, 3) := by decide +kernel
set_option maxRecDepth 20000 in
theorem ggX12_compare_X11_isMuch : GoodIn wsX12_compare wsX11_isMuch := goodIn_r _ [112, 65, 163, 164, 165, 166, 167, 168] rfl (by decide +kernel)
set_option maxRecDepth 20000 in
theorem ggX12_compare_X11_order : GoodIn wsX12_compare wsX11_order := goodIn_r _ [116, 64, 65, 117, 118, 119, 120, 121, 122, 123, 163, 164, 165, 166, 167, 168] rfl (by decide +kernel)
set_option maxRecDepth 20000 in
theorem ggX12_compare_X11_reduce : GoodIn wsX12_compare wsX11_reduce := goodIn_r _ [78, 64, 65, 79, 80, 81, 82, 163, 164, 165, 166, 167, 168] rfl (by decide +kernel)
set_option maxRecDepth 40000 in
theorem ggX12_compare_X11_settle_0 : GoodIn wsX12_compare [.code yX11_settle cX11_settle 8 (some .int)] := goodIn_r _ [35] rfl (by decide +kernel)
set_option maxRecDepth 40000 in
theorem ggX12_compare_X11_settle_1 : GoodIn wsX12_compare wsX11_settle_r1 := goodIn_r _ [36, 37, 38, 39, 40, 41, 42, 43, 44, 45, 46, 47, 48, 49, 50, 16, 51, 52, 53, 54, 55, 56, 57, 58] rfl (by decide +kernel)
set_option maxRecDepth 40000 in
theorem ggX12_compare_X11_settle_2 : GoodIn wsX12_compare wsX11_settle_r2 := goodIn_r _ [59, 60, 61, 62, 34, 63, 64, 65, 66, 32, 33, 67, 68, 69, 70, 71, 72, 73, 74, 75, 76, 77, 78, 79] rfl (by decide +kernel)
set_option maxRecDepth 40000 in
theorem ggX12_compare_X11_settle_3 : GoodIn wsX12_compare wsX11_settle_r3 := goodIn_r _ [80, 81, 82, 83, 84, 85, 86, 87, 88, 89, 90, 91, 92, 93, 94, 95, 96, 97, 98, 99, 100, 101, 102, 103] rfl (by decide +kernel)
set_option maxRecDepth 40000 in
theorem ggX12_compare_X11_settle_4 : GoodIn wsX12_compare wsX11_settle_r4 := goodIn_r _ [104, 105, 106, 107, 108, 109, 110, 111, 112, 113, 114, 115, 116, 117, 118, 119, 120, 121, 122, 123, 124, 125, 126, 127] rfl (by decide +kernel)
set_option maxRecDepth 40000 in
theorem ggX12_compare_X11_settle_5 : GoodIn wsX12_compare wsX11_settle_r5 := goodIn_r _ [128, 129, 130, 131, 132, 133, 134, 135, 136] rfl (by decide +kernel)
set_option maxRecDepth 40000 in
theorem ggX12_compare_X11_settle_6 : GoodIn wsX12_compare wsX110 := goodIn_r _ [163, 164, 165, 166, 167, 168] rfl (by decide +kernel)
set_option maxRecDepth 40000 in
theorem ggX12_compare_X11_settle_7 : GoodIn wsX12_compare wsX80 := goodIn_r _ [169, 170, 171, 172, 173, 174, 175] rfl (by decide +kernel)
set_option maxRecDepth 40000 in
theorem ggX12_compare_X11_settle_8 : GoodIn wsX12_compare wsX20 := goodIn_r _ [155, 156, 157, 158, 159, 160, 161, 162] rfl (by decide +kernel)
set_option maxRecDepth 40000 in
theorem ggX12_compare_X11_settle : GoodIn wsX12_compare wsX11_settle := (goodIn_app ggX12_compare_X11_settle_0 (goodIn_app (goodIn_app (goodIn_app (goodIn_app ggX12_compare_X11_settle_1 (goodIn_app ggX12_compare_X11_settle_2 (goodIn_app ggX12_compare_X11_settle_3 (goodIn_app ggX12_compare_X11_settle_4 ggX12_compare_X11_settle_5)))) ggX12_compare_X11_settle_6) ggX12_compare_X11_settle_7) ggX12_compare_X11_settle_8))
set_option maxRecDepth 20000 in
theorem ggX12_compare_X12_isHand : GoodIn wsX12_compare wsX12_isHand := goodIn_r _ [9, 10, 11, 8, 12] rfl (by decide +kernel)
set_option maxRecDepth 20000 in
theorem ggX12_compare_X12_isSpot : GoodIn wsX12_compare wsX12_isSpot := goodIn_r _ [21, 22, 23, 8, 24, 10, 11, 12] rfl (by decide +kernel)
set_option maxRecDepth 20000 in
theorem ggX12_compare_X2_has : GoodIn wsX12_compare wsX2_has := goodIn_r _ [17, 18, 11, 8, 12, 155, 156, 157, 158, 159, 160, 161, 162] rfl (by decide +kernel)
set_option maxRecDepth 20000 in
theorem ggX12_compare_X4_fractionFault : GoodIn wsX12_compare wsX4_fractionFault := goodIn_r _ [29, 30, 151, 152, 153, 154] rfl (by decide +kernel)
set_option maxRecDepth 20000 in
theorem gX12_compare_X11_isMuch : GoodIn wsX12_compare (wsV RX12 197 RX11 yX11_isMuch wsX11_isMuch) := goodIn_app (goodIn_r _ [137, 110, 111, 34] rfl (by decide +kernel)) ggX12_compare_X11_isMuch
set_option maxRecDepth 20000 in
theorem gX12_compare_X11_order : GoodIn wsX12_compare (wsV RX12 247 RX11 yX11_order wsX11_order) := goodIn_app (goodIn_r _ [139, 114, 115, 34] rfl (by decide +kernel)) ggX12_compare_X11_order
set_option maxRecDepth 20000 in
theorem gX12_compare_X11_reduce : GoodIn wsX12_compare (wsV RX12 361 RX11 yX11_reduce wsX11_reduce) := goodIn_app (goodIn_r _ [138, 76, 77, 34] rfl (by decide +kernel)) ggX12_compare_X11_reduce
set_option maxRecDepth 20000 in
theorem gX12_compare_X11_settle : GoodIn wsX12_compare (wsV RX12 185 RX11 yX11_settle wsX11_settle) := goodIn_app (goodIn_r _ [31, 32, 33, 34] rfl (by decide +kernel)) ggX12_compare_X11_settle
set_option maxRecDepth 20000 in
theorem gX12_compare_X12_isHand : GoodIn wsX12_compare (va_wsS RX12 352 yX12_isHand wsX12_isHand) := goodIn_app (goodIn_of _ (by decide +kernel)) ggX12_compare_X12_isHand
set_option maxRecDepth 20000 in
theorem gX12_compare_X12_isSpot : GoodIn wsX12_compare (va_wsS RX12 108 yX12_isSpot wsX12_isSpot) := goodIn_app (goodIn_of _ (by decide +kernel)) ggX12_compare_X12_isSpot
set_option maxRecDepth 20000 in
theorem gX12_compare_X2_has : GoodIn wsX12_compare (wsV RX12 150 RX2 yX2_has wsX2_has) := goodIn_app (goodIn_r _ [13, 14, 15, 16] rfl (by decide +kernel)) ggX12_compare_X2_has
set_option maxRecDepth 20000 in
theorem gX12_compare_X4_fractionFault : GoodIn wsX12_compare (wsV RX12 373 RX4 yX4_fractionFault wsX4_fractionFault) := goodIn_app (goodIn_r _ [25, 26, 27, 28] rfl (by decide +kernel)) ggX12_compare_X4_fractionFault
set_option maxRecDepth 20000 in
theorem in_X12_compare_X12 : ∀ w ∈ wsX120, w ∈ wsX12_compare := sub_r [140, 141, 142, 143, 144, 145, 146, 147, 148, 149, 150] rfl
set_option maxRecDepth 20000 in
theorem in_X12_compare_X4 : ∀ w ∈ wsX40, w ∈ wsX12_compare := sub_r [151, 152, 153, 154] rfl
set_option maxHeartbeats 4000000 in
set_option maxRecDepth 100000 in
theorem c_X12_compare (l : Launch) (D : va_G) (T : Nat → ClassId) (ad sa av : Nat → Nat) (ta : Nat) (sz : Nat) (h0 : Nat) (wo : Nat) (fs0 : List Value) (la : Nat) (cl : Nat) (p0 : Nat) (p1 : Nat) (p4 : Nat) (n : Int32) (l9 : Nat → Int32) (n0 : Int32) (c1 : Nat) (c2 : Nat) (c3 : Nat) (c4 : Nat) (c5 : Nat) (c6 : Nat) (c7 : Nat) (f1 : Nat → Int32) (f2 : Nat → Int32) (f3 : Nat → Int32) (f4 : Nat → Int32) (f5 : Nat → Int32) (g0 : Nat → Int64) (g1 : Nat → Int64) (g4 : Nat → Int32) (h3 : Nat) (t0 : Nat) (t1 : Nat) (t2 : Nat) (t3 : Nat) (jz : Nat → Int32) (jn : Nat → Int32) (ja : Nat → Int64) (jb : Nat → Int64) (x1 : Int32) (x2 : Int32) (x3 : Int32) (x4 : Int32) (e0_4 : fs0[4]? = some (.ref cl)) (e0_6 : fs0[6]? = some (.ref wo)) (hn0 : 0 ≤ n0.toInt ∧ n0.toInt ≤ 24) (hok : okC f1 f3 f4 f5) (hmm : memW (VALW l9 f1 f2 f3 f4 f5) n0 n g0 g1 g4) (hlq : (1 ≤ (l9 4).toInt ∧ (l9 4).toInt ≤ 9) ∧ 1 ≤ (l9 6).toInt ∧ (l9 6).toInt ≤ 9) (e0_10 : fs0[10]? = some (.ref h3)) (hhb : ∀ k : Nat, k < 4 → (jz k).toInt = 2 → 1 ≤ (jb k).toInt) : Met l yX12_compare wsX12_compare ({ frames := 67, cells := 0, slots := 0, locals := 2197 }) (pWk [.ref h0, .int x1, .int x2, .int x3, .int x4] D T [(h0, .inr (9, fs0)), (wo, .inr (8, [.ref la, .ref cl, .ref p0, .ref p1, .ref p4, .int n])), (la, .inr (5, [.int (l9 0), .int (l9 1), .int (l9 2), .int (l9 3), .int (l9 4), .int (l9 5), .int (l9 6)])), (cl, .inr (1, [.int n0, .ref c1, .ref c2, .ref c3, .ref c4, .ref c5, .ref c6, .ref c7])), (c1, .inl (T 0, 24, .inl f1)), (c2, .inl (T 0, 24, .inl f2)), (c3, .inl (T 0, 24, .inl f3)), (c4, .inl (T 0, 24, .inl f4)), (c5, .inl (T 0, 24, .inl f5)), (p0, .inl (T 1, 676, .inr (.inl g0))), (p1, .inl (T 1, 676, .inr (.inl g1))), (p4, .inl (T 0, 672, .inl g4)), (h3, .inl (T 7, 4, .inr (.inr (.inr (.inr (va_up (va_up (va_up (va_up (fun _ => none) 0 (some t0)) 1 (some t1)) 2 (some t2)) 3 (some t3))))))), (t0, .inr (3, [.int (jz 0), .int (jn 0), .long (ja 0), .long (jb 0)])), (t1, .inr (3, [.int (jz 1), .int (jn 1), .long (ja 1), .long (jb 1)])), (t2, .inr (3, [.int (jz 2), .int (jn 2), .long (ja 2), .long (jb 2)])), (t3, .inr (3, [.int (jz 3), .int (jn 3), .long (ja 3), .long (jb 3)]))] sz ad sa av ta) (va_Qi (fun (r : Int32) (u : (Nat → Int64) × (Nat → Int64) × (Nat → Int32)) => cpQ (VALW l9 f1 f2 f3 f4 f5) n0 (0 ≤ x1.toInt ∧ x1.toInt ≤ 3) (jz (x1.toNatClampNeg)) (redW (ja (x1.toNatClampNeg)) (jb (x1.toNatClampNeg))) x2 x3 x4 r ∧ stW (VALW l9 f1 f2 f3 f4 f5) n0 n (fun _ => True) g0 g1 g4 u.1 u.2.1 u.2.2) (bW D (va_A [(h0, .inr (9, fs0)), (wo, .inr (8, [.ref la, .ref cl, .ref p0, .ref p1, .ref p4, .int n])), (la, .inr (5, [.int (l9 0), .int (l9 1), .int (l9 2), .int (l9 3), .int (l9 4), .int (l9 5), .int (l9 6)])), (cl, .inr (1, [.int n0, .ref c1, .ref c2, .ref c3, .ref c4, .ref c5, .ref c6, .ref c7])), (c1, .inl (T 0, 24, .inl f1)), (c2, .inl (T 0, 24, .inl f2)), (c3, .inl (T 0, 24, .inl f3)), (c4, .inl (T 0, 24, .inl f4)), (c5, .inl (T 0, 24, .inl f5)), (p0, .inl (T 1, 676, .inr (.inl g0))), (p1, .inl (T 1, 676, .inr (.inl g1))), (p4, .inl (T 0, 672, .inl g4)), (h3, .inl (T 7, 4, .inr (.inr (.inr (.inr (va_up (va_up (va_up (va_up (fun _ => none) 0 (some t0)) 1 (some t1)) 2 (some t2)) 3 (some t3))))))), (t0, .inr (3, [.int (jz 0), .int (jn 0), .long (ja 0), .long (jb 0)])), (t1, .inr (3, [.int (jz 1), .int (jn 1), .long (ja 1), .long (jb 1)])), (t2, .inr (3, [.int (jz 2), .int (jn 2), .long (ja 2), .long (jb 2)])), (t3, .inr (3, [.int (jz 3), .int (jn 3), .long (ja 3), .long (jb 3)]))] sz) (fun (u : (Nat → Int64) × (Nat → Int64) × (Nat → Int32)) => [(h0, .inr (9, fs0)), (wo, .inr (8, [.ref la, .ref cl, .ref p0, .ref p1, .ref p4, .int n])), (la, .inr (5, [.int (l9 0), .int (l9 1), .int (l9 2), .int (l9 3), .int (l9 4), .int (l9 5), .int (l9 6)])), (cl, .inr (1, [.int n0, .ref c1, .ref c2, .ref c3, .ref c4, .ref c5, .ref c6, .ref c7])), (c1, .inl (T 0, 24, .inl f1)), (c2, .inl (T 0, 24, .inl f2)), (c3, .inl (T 0, 24, .inl f3)), (c4, .inl (T 0, 24, .inl f4)), (c5, .inl (T 0, 24, .inl f5)), (p0, .inl (T 1, 676, .inr (.inl u.1))), (p1, .inl (T 1, 676, .inr (.inl u.2.1))), (p4, .inl (T 0, 672, .inl u.2.2)), (h3, .inl (T 7, 4, .inr (.inr (.inr (.inr (va_up (va_up (va_up (va_up (fun _ => none) 0 (some t0)) 1 (some t1)) 2 (some t2)) 3 (some t3))))))), (t0, .inr (3, [.int (jz 0), .int (jn 0), .long (ja 0), .long (jb 0)])), (t1, .inr (3, [.int (jz 1), .int (jn 1), .long (ja 1), .long (jb 1)])), (t2, .inr (3, [.int (jz 2), .int (jn 2), .long (ja 2), .long (jb 2)])), (t3, .inr (3, [.int (jz 3), .int (jn 3), .long (ja 3), .long (jb 3)]))])) (va_A [(h0, .inr (9, fs0)), (wo, .inr (8, [.ref la, .ref cl, .ref p0, .ref p1, .ref p4, .int n])), (la, .inr (5, [.int (l9 0), .int (l9 1), .int (l9 2), .int (l9 3), .int (l9 4), .int (l9 5), .int (l9 6)])), (cl, .inr (1, [.int n0, .ref c1, .ref c2, .ref c3, .ref c4, .ref c5, .ref c6, .ref c7])), (c1, .inl (T 0, 24, .inl f1)), (c2, .inl (T 0, 24, .inl f2)), (c3, .inl (T 0, 24, .inl f3)), (c4, .inl (T 0, 24, .inl f4)), (c5, .inl (T 0, 24, .inl f5)), (p0, .inl (T 1, 676, .inr (.inl g0))), (p1, .inl (T 1, 676, .inr (.inl g1))), (p4, .inl (T 0, 672, .inl g4)), (h3, .inl (T 7, 4, .inr (.inr (.inr (.inr (va_up (va_up (va_up (va_up (fun _ => none) 0 (some t0)) 1 (some t1)) 2 (some t2)) 3 (some t3))))))), (t0, .inr (3, [.int (jz 0), .int (jn 0), .long (ja 0), .long (jb 0)])), (t1, .inr (3, [.int (jz 1), .int (jn 1), .long (ja 1), .long (jb 1)])), (t2, .inr (3, [.int (jz 2), .int (jn 2), .long (ja 2), .long (jb 2)])), (t3, .inr (3, [.int (jz 3), .int (jn 3), .long (ja 3), .long (jb 3)]))] sz)) 0 0 (va_A [(h0, .inr (9, fs0)), (wo, .inr (8, [.ref la, .ref cl, .ref p0, .ref p1, .ref p4, .int n])), (la, .inr (5, [.int (l9 0), .int (l9 1), .int (l9 2), .int (l9 3), .int (l9 4), .int (l9 5), .int (l9 6)])), (cl, .inr (1, [.int n0, .ref c1, .ref c2, .ref c3, .ref c4, .ref c5, .ref c6, .ref c7])), (c1, .inl (T 0, 24, .inl f1)), (c2, .inl (T 0, 24, .inl f2)), (c3, .inl (T 0, 24, .inl f3)), (c4, .inl (T 0, 24, .inl f4)), (c5, .inl (T 0, 24, .inl f5)), (p0, .inl (T 1, 676, .inr (.inl g0))), (p1, .inl (T 1, 676, .inr (.inl g1))), (p4, .inl (T 0, 672, .inl g4)), (h3, .inl (T 7, 4, .inr (.inr (.inr (.inr (va_up (va_up (va_up (va_up (fun _ => none) 0 (some t0)) 1 (some t1)) 2 (some t2)) 3 (some t3))))))), (t0, .inr (3, [.int (jz 0), .int (jn 0), .long (ja 0), .long (jb 0)])), (t1, .inr (3, [.int (jz 1), .int (jn 1), .long (ja 1), .long (jb 1)])), (t2, .inr (3, [.int (jz 2), .int (jn 2), .long (ja 2), .long (jb 2)])), (t3, .inr (3, [.int (jz 3), .int (jn 3), .long (ja 3), .long (jb 3)]))] sz) := by
  refine Met.ofW (cc := cX12_compare) (maxL := 8) (ret := (some .int)) (by decide +kernel) rfl ?_
  intro p e s m args below meth c s₁ B hml hv
  obtain ⟨rfl, hsz, hP, hE, hD0, hV⟩ := hv
  have hx := B.exec
  have hb := B.bytes
  have hr := B.returns
  have hts := atoms_spec (ws := wsX12_compare) B.pre
  have hown : s.vm.findClass RX12 = some m.cls := findClass_of_methodNamed B.named
  have hlocks := B.notSynchronized
  subst hsz
  have hD := hD0.self (sz := s.heap.size)
  generalize hAe : va_A [(h0, .inr (9, fs0)), (wo, .inr (8, [.ref la, .ref cl, .ref p0, .ref p1, .ref p4, .int n])), (la, .inr (5, [.int (l9 0), .int (l9 1), .int (l9 2), .int (l9 3), .int (l9 4), .int (l9 5), .int (l9 6)])), (cl, .inr (1, [.int n0, .ref c1, .ref c2, .ref c3, .ref c4, .ref c5, .ref c6, .ref c7])), (c1, .inl (T 0, 24, .inl f1)), (c2, .inl (T 0, 24, .inl f2)), (c3, .inl (T 0, 24, .inl f3)), (c4, .inl (T 0, 24, .inl f4)), (c5, .inl (T 0, 24, .inl f5)), (p0, .inl (T 1, 676, .inr (.inl g0))), (p1, .inl (T 1, 676, .inr (.inl g1))), (p4, .inl (T 0, 672, .inl g4)), (h3, .inl (T 7, 4, .inr (.inr (.inr (.inr (va_up (va_up (va_up (va_up (fun _ => none) 0 (some t0)) 1 (some t1)) 2 (some t2)) 3 (some t3))))))), (t0, .inr (3, [.int (jz 0), .int (jn 0), .long (ja 0), .long (jb 0)])), (t1, .inr (3, [.int (jz 1), .int (jn 1), .long (ja 1), .long (jb 1)])), (t2, .inr (3, [.int (jz 2), .int (jn 2), .long (ja 2), .long (jb 2)])), (t3, .inr (3, [.int (jz 3), .int (jn 3), .long (ja 3), .long (jb 3)]))] s.heap.size = A at hD hV ⊢
  have hA : ∀ q : Nat, s.heap.size ≤ q → A q := fun q h => by rw [← hAe]; exact Or.inr h
  have hS : va_S A s.heap s.heap [] := va_S.rf
  have hP : va_P D vwCl [(h0, .inr (9, fs0)), (wo, .inr (8, [.ref la, .ref cl, .ref p0, .ref p1, .ref p4, .int n])), (la, .inr (5, [.int (l9 0), .int (l9 1), .int (l9 2), .int (l9 3), .int (l9 4), .int (l9 5), .int (l9 6)])), (cl, .inr (1, [.int n0, .ref c1, .ref c2, .ref c3, .ref c4, .ref c5, .ref c6, .ref c7])), (c1, .inl (T 0, 24, .inl f1)), (c2, .inl (T 0, 24, .inl f2)), (c3, .inl (T 0, 24, .inl f3)), (c4, .inl (T 0, 24, .inl f4)), (c5, .inl (T 0, 24, .inl f5)), (p0, .inl (T 1, 676, .inr (.inl g0))), (p1, .inl (T 1, 676, .inr (.inl g1))), (p4, .inl (T 0, 672, .inl g4)), (h3, .inl (T 7, 4, .inr (.inr (.inr (.inr (va_up (va_up (va_up (va_up (fun _ => none) 0 (some t0)) 1 (some t1)) 2 (some t2)) 3 (some t3))))))), (t0, .inr (3, [.int (jz 0), .int (jn 0), .long (ja 0), .long (jb 0)])), (t1, .inr (3, [.int (jz 1), .int (jn 1), .long (ja 1), .long (jb 1)])), (t2, .inr (3, [.int (jz 2), .int (jn 2), .long (ja 2), .long (jb 2)])), (t3, .inr (3, [.int (jz 3), .int (jn 3), .long (ja 3), .long (jb 3)]))] s.heap := hP
  have hl := lv_entry ([.ref h0, .int x1, .int x2, .int x3, .int x4]) (n := 8) (Nat.le_of_ble_eq_true rfl)
  rw [lg_entry_eq]
  generalize (lg_sl ([.ref h0, .int x1, .int x2, .int x3, .int x4]) ++ List.replicate (8 - (lg_sl ([.ref h0, .int x1, .int x2, .int x3, .int x4])).length) Slot.unset).toArray = ls at hl ⊢
  have hl : lv_has ls 8 [(0, .ref h0), (1, .int x1), (2, .int x2), (3, .int x3), (4, .int x4)] := hl
  clear hD0
  have hst : stW (VALW l9 f1 f2 f3 f4 f5) n0 n (fun _ => True) g0 g1 g4 g0 g1 g4 := stW_rf hmm
  refine lv_iload_n hx hb dX12_compare_0 rfl (lv_at hl 1 rfl) ?_
  refine vp_callSi (W.runS (As := [.int x1]) (rest := []) ⟨hx, hb, hml, hown, hts⟩ (c_X12_isHand l D T x1) (va_cwS 1 hts gX12_compare_X12_isHand rfl rfl rfl hs_X12_isHand ⟨Nat.le_of_ble_eq_true rfl, Nat.le_of_ble_eq_true rfl⟩) (pR_S hP hE [] rfl) rfl rfl hl.1 rfl (lv_room (Nat.le_of_ble_eq_true rfl)) dX12_compare_1 ⟨Nat.le_of_ble_eq_true rfl, Nat.le_of_ble_eq_true rfl⟩) (fun r_1 hr_1 => ?_)
  rcases bool_post hr_1 with ⟨c_2, rfl⟩ | ⟨c_2, rfl⟩
  · refine lv_if_eq (tgt := 27) hx hb dX12_compare_4 (by decide +kernel) (fun c9 => absurd c9 (by decide +kernel)) (fun _ => ?_)
    refine lv_aload_n hx hb dX12_compare_7 rfl (lv_at hl 0 rfl) ?_
    refine va_get (D := D) (ci := 9) (v := .ref cl) (C := RX12) (T := TX12) (N := 11) hx hb hts in_X12_compare_X12 hown hE.1 hP 0 rfl rfl 4 (by decide +kernel) (hts (.fieldLink RX12 32 "ClauseBook" "clauses" "LClauseBook$Clauses;") (List.mem_of_getElem? (i := 1) rfl)) (fun _ h9 => h9) e0_4 dX12_compare_8 ?_
    refine lv_iload_n hx hb dX12_compare_11 rfl (lv_at hl 2 rfl) ?_
    refine vp_callSi (W.runV (As := [.int x2]) (rest := []) ⟨hx, hb, hml, hown, hts⟩ (c_X2_has l D T cl [.int n0, .ref c1, .ref c2, .ref c3, .ref c4, .ref c5, .ref c6, .ref c7] x2 n0 rfl (by omega)) (cwV 1 hts gX12_compare_X2_has rfl rfl rfl hv_X2_has ⟨Nat.le_of_ble_eq_true rfl, Nat.le_of_ble_eq_true rfl⟩) (pR_V (q := (RX2, TX2, 8)) (ci := 1) (q0 := 3) hP hE rfl rfl [3] rfl) rfl rfl hl.1 rfl (lv_room (Nat.le_of_ble_eq_true rfl)) dX12_compare_12 ⟨Nat.le_of_ble_eq_true rfl, Nat.le_of_ble_eq_true rfl⟩) (fun r_3 hr_3 => ?_)
    rcases bool_post hr_3 with ⟨c_4, rfl⟩ | ⟨c_4, rfl⟩
    · refine lv_if_eq (tgt := 27) hx hb dX12_compare_15 (by decide +kernel) (fun c9 => absurd c9 (by decide +kernel)) (fun _ => ?_)
      refine lv_iload_n hx hb dX12_compare_18 rfl (lv_at hl 3 rfl) ?_
      refine lv_iload hx hb dX12_compare_19 (lv_at hl 4 rfl) ?_
      refine vp_callSi (W.runS (As := [.int x3, .int x4]) (rest := []) ⟨hx, hb, hml, hown, hts⟩ (c_X12_isSpot l D T x3 x4) (va_cwS 2 hts gX12_compare_X12_isSpot rfl rfl rfl hs_X12_isSpot ⟨Nat.le_of_ble_eq_true rfl, Nat.le_of_ble_eq_true rfl⟩) (pR_S hP hE [] rfl) rfl rfl hl.1 rfl (lv_room (Nat.le_of_ble_eq_true rfl)) dX12_compare_21 ⟨Nat.le_of_ble_eq_true rfl, Nat.le_of_ble_eq_true rfl⟩) (fun r_5 hr_5 => ?_)
      rcases bool_post hr_5 with ⟨c_6, rfl⟩ | ⟨c_6, rfl⟩
      · refine lv_if_ne (tgt := 30) hx hb dX12_compare_24 (by decide +kernel) (fun _ => ?_) (fun c9 => absurd c9 (by decide +kernel))
        refine lv_aload_n hx hb dX12_compare_30 rfl (lv_at hl 0 rfl) ?_
        refine va_get (D := D) (ci := 9) (v := .ref h3) (C := RX12) (T := TX12) (N := 11) hx hb hts in_X12_compare_X12 hown hE.1 hP 0 rfl rfl 10 (by decide +kernel) (hts (.fieldLink RX12 71 "ClauseBook" "hands" "[LClauseBook$Hand;") (List.mem_of_getElem? (i := 2) rfl)) (fun _ h9 => h9) e0_10 dX12_compare_31 ?_
        refine lv_iload_n hx hb dX12_compare_34 rfl (lv_at hl 1 rfl) ?_
        rcases in4 (x := x1) (by omega) with rfl | rfl | rfl | rfl
        · refine va_aldq hx hb hE.1 hP 12 7 rfl rfl (by unfold vp_in; decide) dX12_compare_35 ?_
          refine W.eq (g2 := F0 m 36 ls [.ref t0]) rfl ?_
          refine lv_astore (lv' := [(5, .ref t0), (0, .ref h0), (1, .int 0), (2, .int x2), (3, .int x3), (4, .int x4)]) hx hb dX12_compare_36 hl (by decide +kernel) rfl (fun ls hl => ?_)
          refine lv_aload hx hb dX12_compare_38 (lv_at hl 0 rfl) ?_
          refine vp_callSi (W.runV (As := []) (rest := []) ⟨hx, hb, hml, hown, hts⟩ (c_X4_fractionFault l D T t0 [.int (jz 0), .int (jn 0), .long (ja 0), .long (jb 0)] (jz 0) rfl) (cwV 0 hts gX12_compare_X4_fractionFault rfl rfl rfl hv_X4_fractionFault ⟨Nat.le_of_ble_eq_true rfl, Nat.le_of_ble_eq_true rfl⟩) (pR_V (q := (RX4, TX4, 4)) (ci := 3) (q0 := 13) hP hE rfl rfl [13] rfl) rfl rfl hl.1 rfl (lv_room (Nat.le_of_ble_eq_true rfl)) dX12_compare_40 ⟨Nat.le_of_ble_eq_true rfl, Nat.le_of_ble_eq_true rfl⟩) (fun r_7 hr_7 => ?_)
          rcases ff_post hr_7 with ⟨c_8, rfl⟩ | ⟨c_8, rfl⟩ | ⟨c_8, rfl⟩
          · refine lv_istore (lv' := [(6, .int (-11)), (5, .ref t0), (0, .ref h0), (1, .int 0), (2, .int x2), (3, .int x3), (4, .int x4)]) hx hb dX12_compare_43 hl (by decide +kernel) rfl (fun ls hl => ?_)
            refine lv_iload hx hb dX12_compare_45 (lv_at hl 0 rfl) ?_
            refine lv_if_eq (tgt := 53) hx hb dX12_compare_47 (by decide +kernel) (fun c9 => absurd c9 (by decide +kernel)) (fun _ => ?_)
            refine lv_iload hx hb dX12_compare_50 (lv_at hl 0 rfl) ?_
            exact W.iret hx hb hr (fun t ht hW => ⟨⟨_, (g0, g1, g4), rfl, ⟨(show cpQ (VALW l9 f1 f2 f3 f4 f5) n0 (0 ≤ (0 : Int32).toInt ∧ (0 : Int32).toInt ≤ 3) (jz 0) (redW (ja 0) (jb 0)) x2 x3 x4 ((-11) : Int32) from (Or.inr ⟨⟨(by decide +kernel), ⟨(by omega), (by omega)⟩, ⟨(by omega), (by omega)⟩, (by omega), (by omega)⟩, Or.inl ⟨(show (jz 0).toInt = 0 from by omega), (by decide +kernel)⟩⟩)), hst⟩, by rw [ht]; exact hP.sub [0, 1, 2, 3, 4, 5, 6, 7, 8, 9, 10, 11, 12, 13, 14, 15, 16] rfl, hD.sub [0, 1, 2, 3, 4, 5, 6, 7, 8, 9, 10, 11, 12, 13, 14, 15, 16] (by decide +kernel) rfl⟩, hS.F ht⟩) hS.2.2 dX12_compare_52
          · refine lv_istore (lv' := [(6, .int 0), (5, .ref t0), (0, .ref h0), (1, .int 0), (2, .int x2), (3, .int x3), (4, .int x4)]) hx hb dX12_compare_43 hl (by decide +kernel) rfl (fun ls hl => ?_)
            refine lv_iload hx hb dX12_compare_45 (lv_at hl 0 rfl) ?_
            refine lv_if_eq (tgt := 53) hx hb dX12_compare_47 (by decide +kernel) (fun _ => ?_) (fun c9 => absurd c9 (by decide +kernel))
            refine lv_aload_n hx hb dX12_compare_53 rfl (lv_at hl 2 rfl) ?_
            refine va_get (D := D) (ci := 9) (v := .ref wo) (C := RX12) (T := TX12) (N := 11) hx hb hts in_X12_compare_X12 hown hE.1 hP 0 rfl rfl 6 (by decide +kernel) (hts (.fieldLink RX12 43 "ClauseBook" "worth" "LClauseBook$Worth;") (List.mem_of_getElem? (i := 3) rfl)) (fun _ h9 => h9) e0_6 dX12_compare_54 ?_
            refine lv_iload_n hx hb dX12_compare_57 rfl (lv_at hl 4 rfl) ?_
            refine lv_iload_n hx hb dX12_compare_58 rfl (lv_at hl 5 rfl) ?_
            refine lv_iload hx hb dX12_compare_59 (lv_at hl 6 rfl) ?_
            have hFc := va_free (wc := [(wo, .inr (8, [.ref la, .ref cl, .ref p0, .ref p1, .ref p4, .int n])), (la, .inr (5, [.int (l9 0), .int (l9 1), .int (l9 2), .int (l9 3), .int (l9 4), .int (l9 5), .int (l9 6)])), (cl, .inr (1, [.int n0, .ref c1, .ref c2, .ref c3, .ref c4, .ref c5, .ref c6, .ref c7])), (c1, .inl (T 0, 24, .inl f1)), (c2, .inl (T 0, 24, .inl f2)), (c3, .inl (T 0, 24, .inl f3)), (c4, .inl (T 0, 24, .inl f4)), (c5, .inl (T 0, 24, .inl f5)), (p0, .inl (T 1, 676, .inr (.inl g0))), (p1, .inl (T 1, 676, .inr (.inl g1))), (p4, .inl (T 0, 672, .inl g4))]) hD hS hA [1, 2, 3, 4, 5, 6, 7, 8, 9, 10, 11] rfl
            refine va_calli (va_runV (As := [.int x2, .int x3, .int x4]) (rest := []) ⟨hx, hb, hml, hown, hts⟩ (cS_all l D T ad sa av ta 30 _ wo la cl p0 p1 p4 n l9 n0 c1 c2 c3 c4 c5 c6 c7 f1 f2 f3 f4 f5 g0 g1 g4 x2 x3 x4 (by omega) (by omega) (by omega) hok (by omega) hmm hlq (by omega)) (cwV 3 hts gX12_compare_X11_settle rfl rfl rfl hv_X11_settle ⟨Nat.le_of_ble_eq_true rfl, Nat.le_of_ble_eq_true rfl⟩) (pWk_V (q := (RX11, TX11, 6)) (ci := 8) (q0 := 1) hP hE hD hV hS hFc rfl rfl [1, 2, 3, 4, 5, 6, 7, 8, 9, 10, 11] (by decide +kernel) rfl rfl) rfl rfl hl.1 rfl (lv_room (Nat.le_of_ble_eq_true rfl)) dX12_compare_61 ⟨Nat.le_of_ble_eq_true rfl, Nat.le_of_ble_eq_true rfl⟩) hS (fun q _ h => hFc q h) hFc (fun r_9 u_10 t H1 locs ht hvm hr_9 hB hz1 hk1 hS => ?_)
            obtain ⟨f_11, f_12, f_13⟩ := u_10
            obtain ⟨hqr_9, hsl_r_9, hfo_r_9, hstr_9⟩ := hr_9
            have hqr_9 : 0 ≤ r_9.toInt ∧ r_9.toInt < 672 := hqr_9
            have hsl_r_9 : r_9.toNatClampNeg = slN x2 x3 x4 := hsl_r_9
            have hfo_r_9 : f_13 (slN x2 x3 x4) = n := hfo_r_9
            have hsr_9 : stW (VALW l9 f1 f2 f3 f4 f5) n0 n (rgW x2 x3) g0 g1 g4 f_11 f_12 f_13 := hstr_9
            have hst : stW (VALW l9 f1 f2 f3 f4 f5) n0 n (fun _ => True) g0 g1 g4 f_11 f_12 f_13 := hst.tr hsr_9 (fun _ _ => trivial)
            have hmm : memW (VALW l9 f1 f2 f3 f4 f5) n0 n f_11 f_12 f_13 := hst.1
            have hv_r_9 : (f_11 (r_9.toNatClampNeg), f_12 (r_9.toNatClampNeg)) = (VALW l9 f1 f2 f3 f4 f5) x2 x3 x4 := hst.val (by omega) (by omega) (by first | (rw [ti_0]; omega) | omega) hsl_r_9 hfo_r_9
            have hb_r_9 : 0 ≤ (f_12 (r_9.toNatClampNeg)).toInt := val_nn (VAL_low hlq.1 hlq.2 31 _ _ _) hv_r_9
            obtain ⟨hP1, hD1⟩ := hB
            rw [ht] at hP1
            obtain ⟨hP, hD⟩ := va_repl [(h0, .inr (9, fs0)), (wo, .inr (8, [.ref la, .ref cl, .ref p0, .ref p1, .ref p4, .int n])), (la, .inr (5, [.int (l9 0), .int (l9 1), .int (l9 2), .int (l9 3), .int (l9 4), .int (l9 5), .int (l9 6)])), (cl, .inr (1, [.int n0, .ref c1, .ref c2, .ref c3, .ref c4, .ref c5, .ref c6, .ref c7])), (c1, .inl (T 0, 24, .inl f1)), (c2, .inl (T 0, 24, .inl f2)), (c3, .inl (T 0, 24, .inl f3)), (c4, .inl (T 0, 24, .inl f4)), (c5, .inl (T 0, 24, .inl f5)), (p0, .inl (T 1, 676, .inr (.inl f_11))), (p1, .inl (T 1, 676, .inr (.inl f_12))), (p4, .inl (T 0, 672, .inl f_13)), (h3, .inl (T 7, 4, .inr (.inr (.inr (.inr (va_up (va_up (va_up (va_up (fun _ => none) 0 (some t0)) 1 (some t1)) 2 (some t2)) 3 (some t3))))))), (t0, .inr (3, [.int (jz 0), .int (jn 0), .long (ja 0), .long (jb 0)])), (t1, .inr (3, [.int (jz 1), .int (jn 1), .long (ja 1), .long (jb 1)])), (t2, .inr (3, [.int (jz 2), .int (jn 2), .long (ja 2), .long (jb 2)])), (t3, .inr (3, [.int (jz 3), .int (jn 3), .long (ja 3), .long (jb 3)]))] hP hD [1, 2, 3, 4, 5, 6, 7, 8, 9, 10, 11] [1, 2, 3, 4, 5, 6, 7, 8, 9, 10, 11] rfl (by decide +kernel) rfl rfl rfl hk1 hP1
            clear hP1 hD1 hFc
            generalize H1 = H at hP hS ⊢
            refine lv_istore (lv' := [(7, .int r_9), (6, .int 0), (5, .ref t0), (0, .ref h0), (1, .int 0), (2, .int x2), (3, .int x3), (4, .int x4)]) hx hb dX12_compare_64 hl (by decide +kernel) rfl (fun ls hl => ?_)
            refine lv_aload_n hx hb dX12_compare_66 rfl (lv_at hl 3 rfl) ?_
            refine va_get (D := D) (ci := 9) (v := .ref wo) (C := RX12) (T := TX12) (N := 11) hx hb hts in_X12_compare_X12 hown hE.1 hP 0 rfl rfl 6 (by decide +kernel) (hts (.fieldLink RX12 43 "ClauseBook" "worth" "LClauseBook$Worth;") (List.mem_of_getElem? (i := 3) rfl)) (fun _ h9 => h9) e0_6 dX12_compare_67 ?_
            refine lv_iload hx hb dX12_compare_70 (lv_at hl 0 rfl) ?_
            refine vp_callSi (W.runV (As := [.int r_9]) (rest := []) ⟨hx, hb, hml, hown, hts⟩ (c_X11_isMuch l D T wo [.ref la, .ref cl, .ref p0, .ref p1, .ref p4, .int n] p1 f_12 r_9 rfl (by first | decide | omega)) (cwV 1 hts gX12_compare_X11_isMuch rfl rfl rfl hv_X11_isMuch ⟨Nat.le_of_ble_eq_true rfl, Nat.le_of_ble_eq_true rfl⟩) (pR_V (q := (RX11, TX11, 6)) (ci := 8) (q0 := 1) hP hE rfl rfl [1, 10] rfl) rfl rfl hl.1 rfl (lv_room (Nat.le_of_ble_eq_true rfl)) dX12_compare_72 ⟨Nat.le_of_ble_eq_true rfl, Nat.le_of_ble_eq_true rfl⟩) (fun r_14 hr_14 => ?_)
            rcases bool_post hr_14 with ⟨c_15, rfl⟩ | ⟨c_15, rfl⟩
            · refine lv_if_eq (tgt := 81) hx hb dX12_compare_75 (by decide +kernel) (fun c9 => absurd c9 (by decide +kernel)) (fun _ => ?_)
              refine lv_bipush (v := (-5)) hx hb dX12_compare_78 (by decide +kernel) ?_
              exact W.iret hx hb hr (fun t ht hW => ⟨⟨_, (f_11, f_12, f_13), rfl, ⟨(show cpQ (VALW l9 f1 f2 f3 f4 f5) n0 (0 ≤ (0 : Int32).toInt ∧ (0 : Int32).toInt ≤ 3) (jz 0) (redW (ja 0) (jb 0)) x2 x3 x4 ((-5) : Int32) from (Or.inr ⟨⟨(by decide +kernel), ⟨(by omega), (by omega)⟩, ⟨(by omega), (by omega)⟩, (by omega), (by omega)⟩, Or.inr (Or.inr ⟨(show (jz 0).toInt = 2 from by omega), Or.inl ⟨mu_of hv_r_9 (by omega), (by decide +kernel)⟩⟩)⟩)), hst⟩, by rw [ht]; exact hP.sub [0, 1, 2, 3, 4, 5, 6, 7, 8, 9, 10, 11, 12, 13, 14, 15, 16] rfl, hD.sub [0, 1, 2, 3, 4, 5, 6, 7, 8, 9, 10, 11, 12, 13, 14, 15, 16] (by decide +kernel) rfl⟩, hS.F ht⟩) hS.2.2 dX12_compare_80
            · refine lv_if_eq (tgt := 81) hx hb dX12_compare_75 (by decide +kernel) (fun _ => ?_) (fun c9 => absurd c9 (by decide +kernel))
              have hjb9 : 1 ≤ (jb 0).toInt := hhb 0 (by decide +kernel) (by omega)
              have hnv9 : ¬ ((VALW l9 f1 f2 f3 f4 f5) x2 x3 x4).2.toInt = 0 := nmu_of hv_r_9 (by omega)
              refine lv_aload_n hx hb dX12_compare_81 rfl (lv_at hl 3 rfl) ?_
              refine va_get (D := D) (ci := 9) (v := .ref wo) (C := RX12) (T := TX12) (N := 11) hx hb hts in_X12_compare_X12 hown hE.1 hP 0 rfl rfl 6 (by decide +kernel) (hts (.fieldLink RX12 43 "ClauseBook" "worth" "LClauseBook$Worth;") (List.mem_of_getElem? (i := 3) rfl)) (fun _ h9 => h9) e0_6 dX12_compare_82 ?_
              refine lv_sipush (v := 675) hx hb dX12_compare_85 (by decide +kernel) ?_
              refine lv_aload hx hb dX12_compare_88 (lv_at hl 2 rfl) ?_
              refine va_get (D := D) (ci := 3) (v := .long (ja 0)) (C := RX4) (T := TX4) (N := 4) hx hb hts in_X12_compare_X4 hown hE.1 hP 13 rfl rfl 2 (by decide +kernel) (hts (.fieldLink RX12 365 "ClauseBook$Hand" "above" "J") (List.mem_of_getElem? (i := 4) rfl)) (fun _ h9 => h9) rfl dX12_compare_90 ?_
              refine lv_aload hx hb dX12_compare_93 (lv_at hl 2 rfl) ?_
              refine va_get (D := D) (ci := 3) (v := .long (jb 0)) (C := RX4) (T := TX4) (N := 4) hx hb hts in_X12_compare_X4 hown hE.1 hP 13 rfl rfl 3 (by decide +kernel) (hts (.fieldLink RX12 368 "ClauseBook$Hand" "below" "J") (List.mem_of_getElem? (i := 5) rfl)) (fun _ h9 => h9) rfl dX12_compare_95 ?_
              have hFc := va_free (wc := [(wo, .inr (8, [.ref la, .ref cl, .ref p0, .ref p1, .ref p4, .int n])), (p0, .inl (T 1, 676, .inr (.inl f_11))), (p1, .inl (T 1, 676, .inr (.inl f_12)))]) hD hS hA [1, 9, 10] rfl
              refine va_callv (va_runV (As := [.int 675, .long (ja 0), .long (jb 0)]) (rest := []) ⟨hx, hb, hml, hown, hts⟩ (c_X11_reduce l D T _ wo p0 p1 (.ref la) (.ref cl) (.ref p4) n f_11 f_12 675 (ja 0) (jb 0) (by first | decide | omega) (by omega)) (cwV 3 hts gX12_compare_X11_reduce rfl rfl rfl hv_X11_reduce ⟨Nat.le_of_ble_eq_true rfl, Nat.le_of_ble_eq_true rfl⟩) (pW_V (q := (RX11, TX11, 6)) (ci := 8) (q0 := 1) hP hE hD rfl rfl [1, 9, 10] (by decide +kernel) rfl rfl) rfl rfl hl.1 rfl (lv_room (Nat.le_of_ble_eq_true rfl)) dX12_compare_98 ⟨Nat.le_of_ble_eq_true rfl, Nat.le_of_ble_eq_true rfl⟩) hS (fun q _ h => hFc q h) hFc (fun u_17 t H1 locs ht hvm hr_16 hB hz1 hk1 hS => ?_)
              obtain ⟨f_18, f_19⟩ := u_17
              have hrd1 : f_18 = vp_updL f_11 ((675 : Int32).toNatClampNeg) (redW (ja 0) (jb 0)).1 := hr_16.1
              have hrd2 : f_19 = vp_updL f_12 ((675 : Int32).toNatClampNeg) (redW (ja 0) (jb 0)).2 := hr_16.2
              have hnw9 : (f_18 ((675 : Int32).toNatClampNeg), f_19 ((675 : Int32).toNatClampNeg)) = redW (ja 0) (jb 0) := by rw [put_at (q := redW (ja 0) (jb 0)) hrd1 hrd2]
              have hp_675 := hnw9
              have hst : stW (VALW l9 f1 f2 f3 f4 f5) n0 n (fun _ => True) g0 g1 g4 f_18 f_19 f_13 := by rw [hrd1, hrd2]; exact hst.put (fun h9 => absurd h9 (by decide +kernel))
              have hmm : memW (VALW l9 f1 f2 f3 f4 f5) n0 n f_18 f_19 f_13 := hst.1
              have hv_r_9 : (f_18 (r_9.toNatClampNeg), f_19 (r_9.toNatClampNeg)) = (VALW l9 f1 f2 f3 f4 f5) x2 x3 x4 := hst.val (by omega) (by omega) (by omega) hsl_r_9 hfo_r_9
              have hb_r_9 : 0 ≤ (f_19 (r_9.toNatClampNeg)).toInt := val_nn (VAL_low hlq.1 hlq.2 31 _ _ _) hv_r_9
              obtain ⟨hP1, hD1⟩ := hB
              rw [ht] at hP1
              obtain ⟨hP, hD⟩ := va_repl [(h0, .inr (9, fs0)), (wo, .inr (8, [.ref la, .ref cl, .ref p0, .ref p1, .ref p4, .int n])), (la, .inr (5, [.int (l9 0), .int (l9 1), .int (l9 2), .int (l9 3), .int (l9 4), .int (l9 5), .int (l9 6)])), (cl, .inr (1, [.int n0, .ref c1, .ref c2, .ref c3, .ref c4, .ref c5, .ref c6, .ref c7])), (c1, .inl (T 0, 24, .inl f1)), (c2, .inl (T 0, 24, .inl f2)), (c3, .inl (T 0, 24, .inl f3)), (c4, .inl (T 0, 24, .inl f4)), (c5, .inl (T 0, 24, .inl f5)), (p0, .inl (T 1, 676, .inr (.inl f_18))), (p1, .inl (T 1, 676, .inr (.inl f_19))), (p4, .inl (T 0, 672, .inl f_13)), (h3, .inl (T 7, 4, .inr (.inr (.inr (.inr (va_up (va_up (va_up (va_up (fun _ => none) 0 (some t0)) 1 (some t1)) 2 (some t2)) 3 (some t3))))))), (t0, .inr (3, [.int (jz 0), .int (jn 0), .long (ja 0), .long (jb 0)])), (t1, .inr (3, [.int (jz 1), .int (jn 1), .long (ja 1), .long (jb 1)])), (t2, .inr (3, [.int (jz 2), .int (jn 2), .long (ja 2), .long (jb 2)])), (t3, .inr (3, [.int (jz 3), .int (jn 3), .long (ja 3), .long (jb 3)]))] hP hD [1, 9, 10] [1, 9, 10] rfl (by decide +kernel) rfl rfl rfl hk1 hP1
              clear hP1 hD1 hFc
              generalize H1 = H at hP hS ⊢
              have hb675 : 1 ≤ (f_19 ((675 : Int32).toNatClampNeg)).toInt := one_le hp_675 (redW_pos hjb9)
              have hnm9 : ¬ (f_19 (r_9.toNatClampNeg)).toInt = 0 := nmu_to hv_r_9 hnv9
              refine lv_aload_n hx hb dX12_compare_101 rfl (lv_at hl 3 rfl) ?_
              refine va_get (D := D) (ci := 9) (v := .ref wo) (C := RX12) (T := TX12) (N := 11) hx hb hts in_X12_compare_X12 hown hE.1 hP 0 rfl rfl 6 (by decide +kernel) (hts (.fieldLink RX12 43 "ClauseBook" "worth" "LClauseBook$Worth;") (List.mem_of_getElem? (i := 3) rfl)) (fun _ h9 => h9) e0_6 dX12_compare_102 ?_
              refine lv_iload hx hb dX12_compare_105 (lv_at hl 0 rfl) ?_
              refine lv_sipush (v := 675) hx hb dX12_compare_107 (by decide +kernel) ?_
              refine vp_callSi (W.runV (As := [.int r_9, .int 675]) (rest := []) ⟨hx, hb, hml, hown, hts⟩ (c_X11_order l D T wo [.ref la, .ref cl, .ref p0, .ref p1, .ref p4, .int n] p1 f_19 p0 f_18 r_9 675 rfl rfl (by first | decide | omega) (by first | decide | omega) (by first | omega | assumption | decide) (by first | omega | assumption | decide)) (cwV 2 hts gX12_compare_X11_order rfl rfl rfl hv_X11_order ⟨Nat.le_of_ble_eq_true rfl, Nat.le_of_ble_eq_true rfl⟩) (pR_V (q := (RX11, TX11, 6)) (ci := 8) (q0 := 1) hP hE rfl rfl [1, 10, 9] rfl) rfl rfl hl.1 rfl (lv_room (Nat.le_of_ble_eq_true rfl)) dX12_compare_110 ⟨Nat.le_of_ble_eq_true rfl, Nat.le_of_ble_eq_true rfl⟩) (fun r_20 hr_20 => ?_)
              exact W.iret hx hb hr (fun t ht hW => ⟨⟨_, (f_18, f_19, f_13), rfl, ⟨(show cpQ (VALW l9 f1 f2 f3 f4 f5) n0 (0 ≤ (0 : Int32).toInt ∧ (0 : Int32).toInt ≤ 3) (jz 0) (redW (ja 0) (jb 0)) x2 x3 x4 r_20 from (Or.inr ⟨⟨(by decide +kernel), ⟨(by omega), (by omega)⟩, ⟨(by omega), (by omega)⟩, (by omega), (by omega)⟩, Or.inr (Or.inr ⟨(show (jz 0).toInt = 2 from by omega), Or.inr ⟨hnv9, hr_20.trans (cmp_of hv_r_9 hp_675).symm⟩⟩)⟩)), hst⟩, by rw [ht]; exact hP.sub [0, 1, 2, 3, 4, 5, 6, 7, 8, 9, 10, 11, 12, 13, 14, 15, 16] rfl, hD.sub [0, 1, 2, 3, 4, 5, 6, 7, 8, 9, 10, 11, 12, 13, 14, 15, 16] (by decide +kernel) rfl⟩, hS.F ht⟩) hS.2.2 dX12_compare_113
          · refine lv_istore (lv' := [(6, .int (-13)), (5, .ref t0), (0, .ref h0), (1, .int 0), (2, .int x2), (3, .int x3), (4, .int x4)]) hx hb dX12_compare_43 hl (by decide +kernel) rfl (fun ls hl => ?_)
            refine lv_iload hx hb dX12_compare_45 (lv_at hl 0 rfl) ?_
            refine lv_if_eq (tgt := 53) hx hb dX12_compare_47 (by decide +kernel) (fun c9 => absurd c9 (by decide +kernel)) (fun _ => ?_)
            refine lv_iload hx hb dX12_compare_50 (lv_at hl 0 rfl) ?_
            exact W.iret hx hb hr (fun t ht hW => ⟨⟨_, (g0, g1, g4), rfl, ⟨(show cpQ (VALW l9 f1 f2 f3 f4 f5) n0 (0 ≤ (0 : Int32).toInt ∧ (0 : Int32).toInt ≤ 3) (jz 0) (redW (ja 0) (jb 0)) x2 x3 x4 ((-13) : Int32) from (Or.inr ⟨⟨(by decide +kernel), ⟨(by omega), (by omega)⟩, ⟨(by omega), (by omega)⟩, (by omega), (by omega)⟩, Or.inr (Or.inl ⟨(show (jz 0).toInt ≠ 0 from by omega), (show (jz 0).toInt ≠ 2 from by omega), (by decide +kernel)⟩)⟩)), hst⟩, by rw [ht]; exact hP.sub [0, 1, 2, 3, 4, 5, 6, 7, 8, 9, 10, 11, 12, 13, 14, 15, 16] rfl, hD.sub [0, 1, 2, 3, 4, 5, 6, 7, 8, 9, 10, 11, 12, 13, 14, 15, 16] (by decide +kernel) rfl⟩, hS.F ht⟩) hS.2.2 dX12_compare_52
        · refine va_aldq hx hb hE.1 hP 12 7 rfl rfl (by unfold vp_in; decide) dX12_compare_35 ?_
          refine W.eq (g2 := F0 m 36 ls [.ref t1]) rfl ?_
          refine lv_astore (lv' := [(5, .ref t1), (0, .ref h0), (1, .int 1), (2, .int x2), (3, .int x3), (4, .int x4)]) hx hb dX12_compare_36 hl (by decide +kernel) rfl (fun ls hl => ?_)
          refine lv_aload hx hb dX12_compare_38 (lv_at hl 0 rfl) ?_
          refine vp_callSi (W.runV (As := []) (rest := []) ⟨hx, hb, hml, hown, hts⟩ (c_X4_fractionFault l D T t1 [.int (jz 1), .int (jn 1), .long (ja 1), .long (jb 1)] (jz 1) rfl) (cwV 0 hts gX12_compare_X4_fractionFault rfl rfl rfl hv_X4_fractionFault ⟨Nat.le_of_ble_eq_true rfl, Nat.le_of_ble_eq_true rfl⟩) (pR_V (q := (RX4, TX4, 4)) (ci := 3) (q0 := 14) hP hE rfl rfl [14] rfl) rfl rfl hl.1 rfl (lv_room (Nat.le_of_ble_eq_true rfl)) dX12_compare_40 ⟨Nat.le_of_ble_eq_true rfl, Nat.le_of_ble_eq_true rfl⟩) (fun r_21 hr_21 => ?_)
          rcases ff_post hr_21 with ⟨c_22, rfl⟩ | ⟨c_22, rfl⟩ | ⟨c_22, rfl⟩
          · refine lv_istore (lv' := [(6, .int (-11)), (5, .ref t1), (0, .ref h0), (1, .int 1), (2, .int x2), (3, .int x3), (4, .int x4)]) hx hb dX12_compare_43 hl (by decide +kernel) rfl (fun ls hl => ?_)
            refine lv_iload hx hb dX12_compare_45 (lv_at hl 0 rfl) ?_
            refine lv_if_eq (tgt := 53) hx hb dX12_compare_47 (by decide +kernel) (fun c9 => absurd c9 (by decide +kernel)) (fun _ => ?_)
            refine lv_iload hx hb dX12_compare_50 (lv_at hl 0 rfl) ?_
            exact W.iret hx hb hr (fun t ht hW => ⟨⟨_, (g0, g1, g4), rfl, ⟨(show cpQ (VALW l9 f1 f2 f3 f4 f5) n0 (0 ≤ (1 : Int32).toInt ∧ (1 : Int32).toInt ≤ 3) (jz 1) (redW (ja 1) (jb 1)) x2 x3 x4 ((-11) : Int32) from (Or.inr ⟨⟨(by decide +kernel), ⟨(by omega), (by omega)⟩, ⟨(by omega), (by omega)⟩, (by omega), (by omega)⟩, Or.inl ⟨(show (jz 1).toInt = 0 from by omega), (by decide +kernel)⟩⟩)), hst⟩, by rw [ht]; exact hP.sub [0, 1, 2, 3, 4, 5, 6, 7, 8, 9, 10, 11, 12, 13, 14, 15, 16] rfl, hD.sub [0, 1, 2, 3, 4, 5, 6, 7, 8, 9, 10, 11, 12, 13, 14, 15, 16] (by decide +kernel) rfl⟩, hS.F ht⟩) hS.2.2 dX12_compare_52
          · refine lv_istore (lv' := [(6, .int 0), (5, .ref t1), (0, .ref h0), (1, .int 1), (2, .int x2), (3, .int x3), (4, .int x4)]) hx hb dX12_compare_43 hl (by decide +kernel) rfl (fun ls hl => ?_)
            refine lv_iload hx hb dX12_compare_45 (lv_at hl 0 rfl) ?_
            refine lv_if_eq (tgt := 53) hx hb dX12_compare_47 (by decide +kernel) (fun _ => ?_) (fun c9 => absurd c9 (by decide +kernel))
            refine lv_aload_n hx hb dX12_compare_53 rfl (lv_at hl 2 rfl) ?_
            refine va_get (D := D) (ci := 9) (v := .ref wo) (C := RX12) (T := TX12) (N := 11) hx hb hts in_X12_compare_X12 hown hE.1 hP 0 rfl rfl 6 (by decide +kernel) (hts (.fieldLink RX12 43 "ClauseBook" "worth" "LClauseBook$Worth;") (List.mem_of_getElem? (i := 3) rfl)) (fun _ h9 => h9) e0_6 dX12_compare_54 ?_
            refine lv_iload_n hx hb dX12_compare_57 rfl (lv_at hl 4 rfl) ?_
            refine lv_iload_n hx hb dX12_compare_58 rfl (lv_at hl 5 rfl) ?_
            refine lv_iload hx hb dX12_compare_59 (lv_at hl 6 rfl) ?_
            have hFc := va_free (wc := [(wo, .inr (8, [.ref la, .ref cl, .ref p0, .ref p1, .ref p4, .int n])), (la, .inr (5, [.int (l9 0), .int (l9 1), .int (l9 2), .int (l9 3), .int (l9 4), .int (l9 5), .int (l9 6)])), (cl, .inr (1, [.int n0, .ref c1, .ref c2, .ref c3, .ref c4, .ref c5, .ref c6, .ref c7])), (c1, .inl (T 0, 24, .inl f1)), (c2, .inl (T 0, 24, .inl f2)), (c3, .inl (T 0, 24, .inl f3)), (c4, .inl (T 0, 24, .inl f4)), (c5, .inl (T 0, 24, .inl f5)), (p0, .inl (T 1, 676, .inr (.inl g0))), (p1, .inl (T 1, 676, .inr (.inl g1))), (p4, .inl (T 0, 672, .inl g4))]) hD hS hA [1, 2, 3, 4, 5, 6, 7, 8, 9, 10, 11] rfl
            refine va_calli (va_runV (As := [.int x2, .int x3, .int x4]) (rest := []) ⟨hx, hb, hml, hown, hts⟩ (cS_all l D T ad sa av ta 30 _ wo la cl p0 p1 p4 n l9 n0 c1 c2 c3 c4 c5 c6 c7 f1 f2 f3 f4 f5 g0 g1 g4 x2 x3 x4 (by omega) (by omega) (by omega) hok (by omega) hmm hlq (by omega)) (cwV 3 hts gX12_compare_X11_settle rfl rfl rfl hv_X11_settle ⟨Nat.le_of_ble_eq_true rfl, Nat.le_of_ble_eq_true rfl⟩) (pWk_V (q := (RX11, TX11, 6)) (ci := 8) (q0 := 1) hP hE hD hV hS hFc rfl rfl [1, 2, 3, 4, 5, 6, 7, 8, 9, 10, 11] (by decide +kernel) rfl rfl) rfl rfl hl.1 rfl (lv_room (Nat.le_of_ble_eq_true rfl)) dX12_compare_61 ⟨Nat.le_of_ble_eq_true rfl, Nat.le_of_ble_eq_true rfl⟩) hS (fun q _ h => hFc q h) hFc (fun r_23 u_24 t H1 locs ht hvm hr_23 hB hz1 hk1 hS => ?_)
            obtain ⟨f_25, f_26, f_27⟩ := u_24
            obtain ⟨hqr_23, hsl_r_23, hfo_r_23, hstr_23⟩ := hr_23
            have hqr_23 : 0 ≤ r_23.toInt ∧ r_23.toInt < 672 := hqr_23
            have hsl_r_23 : r_23.toNatClampNeg = slN x2 x3 x4 := hsl_r_23
            have hfo_r_23 : f_27 (slN x2 x3 x4) = n := hfo_r_23
            have hsr_23 : stW (VALW l9 f1 f2 f3 f4 f5) n0 n (rgW x2 x3) g0 g1 g4 f_25 f_26 f_27 := hstr_23
            have hst : stW (VALW l9 f1 f2 f3 f4 f5) n0 n (fun _ => True) g0 g1 g4 f_25 f_26 f_27 := hst.tr hsr_23 (fun _ _ => trivial)
            have hmm : memW (VALW l9 f1 f2 f3 f4 f5) n0 n f_25 f_26 f_27 := hst.1
            have hv_r_23 : (f_25 (r_23.toNatClampNeg), f_26 (r_23.toNatClampNeg)) = (VALW l9 f1 f2 f3 f4 f5) x2 x3 x4 := hst.val (by omega) (by omega) (by first | (rw [ti_0]; omega) | omega) hsl_r_23 hfo_r_23
            have hb_r_23 : 0 ≤ (f_26 (r_23.toNatClampNeg)).toInt := val_nn (VAL_low hlq.1 hlq.2 31 _ _ _) hv_r_23
            obtain ⟨hP1, hD1⟩ := hB
            rw [ht] at hP1
            obtain ⟨hP, hD⟩ := va_repl [(h0, .inr (9, fs0)), (wo, .inr (8, [.ref la, .ref cl, .ref p0, .ref p1, .ref p4, .int n])), (la, .inr (5, [.int (l9 0), .int (l9 1), .int (l9 2), .int (l9 3), .int (l9 4), .int (l9 5), .int (l9 6)])), (cl, .inr (1, [.int n0, .ref c1, .ref c2, .ref c3, .ref c4, .ref c5, .ref c6, .ref c7])), (c1, .inl (T 0, 24, .inl f1)), (c2, .inl (T 0, 24, .inl f2)), (c3, .inl (T 0, 24, .inl f3)), (c4, .inl (T 0, 24, .inl f4)), (c5, .inl (T 0, 24, .inl f5)), (p0, .inl (T 1, 676, .inr (.inl f_25))), (p1, .inl (T 1, 676, .inr (.inl f_26))), (p4, .inl (T 0, 672, .inl f_27)), (h3, .inl (T 7, 4, .inr (.inr (.inr (.inr (va_up (va_up (va_up (va_up (fun _ => none) 0 (some t0)) 1 (some t1)) 2 (some t2)) 3 (some t3))))))), (t0, .inr (3, [.int (jz 0), .int (jn 0), .long (ja 0), .long (jb 0)])), (t1, .inr (3, [.int (jz 1), .int (jn 1), .long (ja 1), .long (jb 1)])), (t2, .inr (3, [.int (jz 2), .int (jn 2), .long (ja 2), .long (jb 2)])), (t3, .inr (3, [.int (jz 3), .int (jn 3), .long (ja 3), .long (jb 3)]))] hP hD [1, 2, 3, 4, 5, 6, 7, 8, 9, 10, 11] [1, 2, 3, 4, 5, 6, 7, 8, 9, 10, 11] rfl (by decide +kernel) rfl rfl rfl hk1 hP1
            clear hP1 hD1 hFc
            generalize H1 = H at hP hS ⊢
            refine lv_istore (lv' := [(7, .int r_23), (6, .int 0), (5, .ref t1), (0, .ref h0), (1, .int 1), (2, .int x2), (3, .int x3), (4, .int x4)]) hx hb dX12_compare_64 hl (by decide +kernel) rfl (fun ls hl => ?_)
            refine lv_aload_n hx hb dX12_compare_66 rfl (lv_at hl 3 rfl) ?_
            refine va_get (D := D) (ci := 9) (v := .ref wo) (C := RX12) (T := TX12) (N := 11) hx hb hts in_X12_compare_X12 hown hE.1 hP 0 rfl rfl 6 (by decide +kernel) (hts (.fieldLink RX12 43 "ClauseBook" "worth" "LClauseBook$Worth;") (List.mem_of_getElem? (i := 3) rfl)) (fun _ h9 => h9) e0_6 dX12_compare_67 ?_
            refine lv_iload hx hb dX12_compare_70 (lv_at hl 0 rfl) ?_
            refine vp_callSi (W.runV (As := [.int r_23]) (rest := []) ⟨hx, hb, hml, hown, hts⟩ (c_X11_isMuch l D T wo [.ref la, .ref cl, .ref p0, .ref p1, .ref p4, .int n] p1 f_26 r_23 rfl (by first | decide | omega)) (cwV 1 hts gX12_compare_X11_isMuch rfl rfl rfl hv_X11_isMuch ⟨Nat.le_of_ble_eq_true rfl, Nat.le_of_ble_eq_true rfl⟩) (pR_V (q := (RX11, TX11, 6)) (ci := 8) (q0 := 1) hP hE rfl rfl [1, 10] rfl) rfl rfl hl.1 rfl (lv_room (Nat.le_of_ble_eq_true rfl)) dX12_compare_72 ⟨Nat.le_of_ble_eq_true rfl, Nat.le_of_ble_eq_true rfl⟩) (fun r_28 hr_28 => ?_)
            rcases bool_post hr_28 with ⟨c_29, rfl⟩ | ⟨c_29, rfl⟩
            · refine lv_if_eq (tgt := 81) hx hb dX12_compare_75 (by decide +kernel) (fun c9 => absurd c9 (by decide +kernel)) (fun _ => ?_)
              refine lv_bipush (v := (-5)) hx hb dX12_compare_78 (by decide +kernel) ?_
              exact W.iret hx hb hr (fun t ht hW => ⟨⟨_, (f_25, f_26, f_27), rfl, ⟨(show cpQ (VALW l9 f1 f2 f3 f4 f5) n0 (0 ≤ (1 : Int32).toInt ∧ (1 : Int32).toInt ≤ 3) (jz 1) (redW (ja 1) (jb 1)) x2 x3 x4 ((-5) : Int32) from (Or.inr ⟨⟨(by decide +kernel), ⟨(by omega), (by omega)⟩, ⟨(by omega), (by omega)⟩, (by omega), (by omega)⟩, Or.inr (Or.inr ⟨(show (jz 1).toInt = 2 from by omega), Or.inl ⟨mu_of hv_r_23 (by omega), (by decide +kernel)⟩⟩)⟩)), hst⟩, by rw [ht]; exact hP.sub [0, 1, 2, 3, 4, 5, 6, 7, 8, 9, 10, 11, 12, 13, 14, 15, 16] rfl, hD.sub [0, 1, 2, 3, 4, 5, 6, 7, 8, 9, 10, 11, 12, 13, 14, 15, 16] (by decide +kernel) rfl⟩, hS.F ht⟩) hS.2.2 dX12_compare_80
            · refine lv_if_eq (tgt := 81) hx hb dX12_compare_75 (by decide +kernel) (fun _ => ?_) (fun c9 => absurd c9 (by decide +kernel))
              have hjb9 : 1 ≤ (jb 1).toInt := hhb 1 (by decide +kernel) (by omega)
              have hnv9 : ¬ ((VALW l9 f1 f2 f3 f4 f5) x2 x3 x4).2.toInt = 0 := nmu_of hv_r_23 (by omega)
              refine lv_aload_n hx hb dX12_compare_81 rfl (lv_at hl 3 rfl) ?_
              refine va_get (D := D) (ci := 9) (v := .ref wo) (C := RX12) (T := TX12) (N := 11) hx hb hts in_X12_compare_X12 hown hE.1 hP 0 rfl rfl 6 (by decide +kernel) (hts (.fieldLink RX12 43 "ClauseBook" "worth" "LClauseBook$Worth;") (List.mem_of_getElem? (i := 3) rfl)) (fun _ h9 => h9) e0_6 dX12_compare_82 ?_
              refine lv_sipush (v := 675) hx hb dX12_compare_85 (by decide +kernel) ?_
              refine lv_aload hx hb dX12_compare_88 (lv_at hl 2 rfl) ?_
              refine va_get (D := D) (ci := 3) (v := .long (ja 1)) (C := RX4) (T := TX4) (N := 4) hx hb hts in_X12_compare_X4 hown hE.1 hP 14 rfl rfl 2 (by decide +kernel) (hts (.fieldLink RX12 365 "ClauseBook$Hand" "above" "J") (List.mem_of_getElem? (i := 4) rfl)) (fun _ h9 => h9) rfl dX12_compare_90 ?_
              refine lv_aload hx hb dX12_compare_93 (lv_at hl 2 rfl) ?_
              refine va_get (D := D) (ci := 3) (v := .long (jb 1)) (C := RX4) (T := TX4) (N := 4) hx hb hts in_X12_compare_X4 hown hE.1 hP 14 rfl rfl 3 (by decide +kernel) (hts (.fieldLink RX12 368 "ClauseBook$Hand" "below" "J") (List.mem_of_getElem? (i := 5) rfl)) (fun _ h9 => h9) rfl dX12_compare_95 ?_
              have hFc := va_free (wc := [(wo, .inr (8, [.ref la, .ref cl, .ref p0, .ref p1, .ref p4, .int n])), (p0, .inl (T 1, 676, .inr (.inl f_25))), (p1, .inl (T 1, 676, .inr (.inl f_26)))]) hD hS hA [1, 9, 10] rfl
              refine va_callv (va_runV (As := [.int 675, .long (ja 1), .long (jb 1)]) (rest := []) ⟨hx, hb, hml, hown, hts⟩ (c_X11_reduce l D T _ wo p0 p1 (.ref la) (.ref cl) (.ref p4) n f_25 f_26 675 (ja 1) (jb 1) (by first | decide | omega) (by omega)) (cwV 3 hts gX12_compare_X11_reduce rfl rfl rfl hv_X11_reduce ⟨Nat.le_of_ble_eq_true rfl, Nat.le_of_ble_eq_true rfl⟩) (pW_V (q := (RX11, TX11, 6)) (ci := 8) (q0 := 1) hP hE hD rfl rfl [1, 9, 10] (by decide +kernel) rfl rfl) rfl rfl hl.1 rfl (lv_room (Nat.le_of_ble_eq_true rfl)) dX12_compare_98 ⟨Nat.le_of_ble_eq_true rfl, Nat.le_of_ble_eq_true rfl⟩) hS (fun q _ h => hFc q h) hFc (fun u_31 t H1 locs ht hvm hr_30 hB hz1 hk1 hS => ?_)
              obtain ⟨f_32, f_33⟩ := u_31
              have hrd1 : f_32 = vp_updL f_25 ((675 : Int32).toNatClampNeg) (redW (ja 1) (jb 1)).1 := hr_30.1
              have hrd2 : f_33 = vp_updL f_26 ((675 : Int32).toNatClampNeg) (redW (ja 1) (jb 1)).2 := hr_30.2
              have hnw9 : (f_32 ((675 : Int32).toNatClampNeg), f_33 ((675 : Int32).toNatClampNeg)) = redW (ja 1) (jb 1) := by rw [put_at (q := redW (ja 1) (jb 1)) hrd1 hrd2]
              have hp_675 := hnw9
              have hst : stW (VALW l9 f1 f2 f3 f4 f5) n0 n (fun _ => True) g0 g1 g4 f_32 f_33 f_27 := by rw [hrd1, hrd2]; exact hst.put (fun h9 => absurd h9 (by decide +kernel))
              have hmm : memW (VALW l9 f1 f2 f3 f4 f5) n0 n f_32 f_33 f_27 := hst.1
              have hv_r_23 : (f_32 (r_23.toNatClampNeg), f_33 (r_23.toNatClampNeg)) = (VALW l9 f1 f2 f3 f4 f5) x2 x3 x4 := hst.val (by omega) (by omega) (by omega) hsl_r_23 hfo_r_23
              have hb_r_23 : 0 ≤ (f_33 (r_23.toNatClampNeg)).toInt := val_nn (VAL_low hlq.1 hlq.2 31 _ _ _) hv_r_23
              obtain ⟨hP1, hD1⟩ := hB
              rw [ht] at hP1
              obtain ⟨hP, hD⟩ := va_repl [(h0, .inr (9, fs0)), (wo, .inr (8, [.ref la, .ref cl, .ref p0, .ref p1, .ref p4, .int n])), (la, .inr (5, [.int (l9 0), .int (l9 1), .int (l9 2), .int (l9 3), .int (l9 4), .int (l9 5), .int (l9 6)])), (cl, .inr (1, [.int n0, .ref c1, .ref c2, .ref c3, .ref c4, .ref c5, .ref c6, .ref c7])), (c1, .inl (T 0, 24, .inl f1)), (c2, .inl (T 0, 24, .inl f2)), (c3, .inl (T 0, 24, .inl f3)), (c4, .inl (T 0, 24, .inl f4)), (c5, .inl (T 0, 24, .inl f5)), (p0, .inl (T 1, 676, .inr (.inl f_32))), (p1, .inl (T 1, 676, .inr (.inl f_33))), (p4, .inl (T 0, 672, .inl f_27)), (h3, .inl (T 7, 4, .inr (.inr (.inr (.inr (va_up (va_up (va_up (va_up (fun _ => none) 0 (some t0)) 1 (some t1)) 2 (some t2)) 3 (some t3))))))), (t0, .inr (3, [.int (jz 0), .int (jn 0), .long (ja 0), .long (jb 0)])), (t1, .inr (3, [.int (jz 1), .int (jn 1), .long (ja 1), .long (jb 1)])), (t2, .inr (3, [.int (jz 2), .int (jn 2), .long (ja 2), .long (jb 2)])), (t3, .inr (3, [.int (jz 3), .int (jn 3), .long (ja 3), .long (jb 3)]))] hP hD [1, 9, 10] [1, 9, 10] rfl (by decide +kernel) rfl rfl rfl hk1 hP1
              clear hP1 hD1 hFc
              generalize H1 = H at hP hS ⊢
              have hb675 : 1 ≤ (f_33 ((675 : Int32).toNatClampNeg)).toInt := one_le hp_675 (redW_pos hjb9)
              have hnm9 : ¬ (f_33 (r_23.toNatClampNeg)).toInt = 0 := nmu_to hv_r_23 hnv9
              refine lv_aload_n hx hb dX12_compare_101 rfl (lv_at hl 3 rfl) ?_
              refine va_get (D := D) (ci := 9) (v := .ref wo) (C := RX12) (T := TX12) (N := 11) hx hb hts in_X12_compare_X12 hown hE.1 hP 0 rfl rfl 6 (by decide +kernel) (hts (.fieldLink RX12 43 "ClauseBook" "worth" "LClauseBook$Worth;") (List.mem_of_getElem? (i := 3) rfl)) (fun _ h9 => h9) e0_6 dX12_compare_102 ?_
              refine lv_iload hx hb dX12_compare_105 (lv_at hl 0 rfl) ?_
              refine lv_sipush (v := 675) hx hb dX12_compare_107 (by decide +kernel) ?_
              refine vp_callSi (W.runV (As := [.int r_23, .int 675]) (rest := []) ⟨hx, hb, hml, hown, hts⟩ (c_X11_order l D T wo [.ref la, .ref cl, .ref p0, .ref p1, .ref p4, .int n] p1 f_33 p0 f_32 r_23 675 rfl rfl (by first | decide | omega) (by first | decide | omega) (by first | omega | assumption | decide) (by first | omega | assumption | decide)) (cwV 2 hts gX12_compare_X11_order rfl rfl rfl hv_X11_order ⟨Nat.le_of_ble_eq_true rfl, Nat.le_of_ble_eq_true rfl⟩) (pR_V (q := (RX11, TX11, 6)) (ci := 8) (q0 := 1) hP hE rfl rfl [1, 10, 9] rfl) rfl rfl hl.1 rfl (lv_room (Nat.le_of_ble_eq_true rfl)) dX12_compare_110 ⟨Nat.le_of_ble_eq_true rfl, Nat.le_of_ble_eq_true rfl⟩) (fun r_34 hr_34 => ?_)
              exact W.iret hx hb hr (fun t ht hW => ⟨⟨_, (f_32, f_33, f_27), rfl, ⟨(show cpQ (VALW l9 f1 f2 f3 f4 f5) n0 (0 ≤ (1 : Int32).toInt ∧ (1 : Int32).toInt ≤ 3) (jz 1) (redW (ja 1) (jb 1)) x2 x3 x4 r_34 from (Or.inr ⟨⟨(by decide +kernel), ⟨(by omega), (by omega)⟩, ⟨(by omega), (by omega)⟩, (by omega), (by omega)⟩, Or.inr (Or.inr ⟨(show (jz 1).toInt = 2 from by omega), Or.inr ⟨hnv9, hr_34.trans (cmp_of hv_r_23 hp_675).symm⟩⟩)⟩)), hst⟩, by rw [ht]; exact hP.sub [0, 1, 2, 3, 4, 5, 6, 7, 8, 9, 10, 11, 12, 13, 14, 15, 16] rfl, hD.sub [0, 1, 2, 3, 4, 5, 6, 7, 8, 9, 10, 11, 12, 13, 14, 15, 16] (by decide +kernel) rfl⟩, hS.F ht⟩) hS.2.2 dX12_compare_113
          · refine lv_istore (lv' := [(6, .int (-13)), (5, .ref t1), (0, .ref h0), (1, .int 1), (2, .int x2), (3, .int x3), (4, .int x4)]) hx hb dX12_compare_43 hl (by decide +kernel) rfl (fun ls hl => ?_)
            refine lv_iload hx hb dX12_compare_45 (lv_at hl 0 rfl) ?_
            refine lv_if_eq (tgt := 53) hx hb dX12_compare_47 (by decide +kernel) (fun c9 => absurd c9 (by decide +kernel)) (fun _ => ?_)
            refine lv_iload hx hb dX12_compare_50 (lv_at hl 0 rfl) ?_
            exact W.iret hx hb hr (fun t ht hW => ⟨⟨_, (g0, g1, g4), rfl, ⟨(show cpQ (VALW l9 f1 f2 f3 f4 f5) n0 (0 ≤ (1 : Int32).toInt ∧ (1 : Int32).toInt ≤ 3) (jz 1) (redW (ja 1) (jb 1)) x2 x3 x4 ((-13) : Int32) from (Or.inr ⟨⟨(by decide +kernel), ⟨(by omega), (by omega)⟩, ⟨(by omega), (by omega)⟩, (by omega), (by omega)⟩, Or.inr (Or.inl ⟨(show (jz 1).toInt ≠ 0 from by omega), (show (jz 1).toInt ≠ 2 from by omega), (by decide +kernel)⟩)⟩)), hst⟩, by rw [ht]; exact hP.sub [0, 1, 2, 3, 4, 5, 6, 7, 8, 9, 10, 11, 12, 13, 14, 15, 16] rfl, hD.sub [0, 1, 2, 3, 4, 5, 6, 7, 8, 9, 10, 11, 12, 13, 14, 15, 16] (by decide +kernel) rfl⟩, hS.F ht⟩) hS.2.2 dX12_compare_52
        · refine va_aldq hx hb hE.1 hP 12 7 rfl rfl (by unfold vp_in; decide) dX12_compare_35 ?_
          refine W.eq (g2 := F0 m 36 ls [.ref t2]) rfl ?_
          refine lv_astore (lv' := [(5, .ref t2), (0, .ref h0), (1, .int 2), (2, .int x2), (3, .int x3), (4, .int x4)]) hx hb dX12_compare_36 hl (by decide +kernel) rfl (fun ls hl => ?_)
          refine lv_aload hx hb dX12_compare_38 (lv_at hl 0 rfl) ?_
          refine vp_callSi (W.runV (As := []) (rest := []) ⟨hx, hb, hml, hown, hts⟩ (c_X4_fractionFault l D T t2 [.int (jz 2), .int (jn 2), .long (ja 2), .long (jb 2)] (jz 2) rfl) (cwV 0 hts gX12_compare_X4_fractionFault rfl rfl rfl hv_X4_fractionFault ⟨Nat.le_of_ble_eq_true rfl, Nat.le_of_ble_eq_true rfl⟩) (pR_V (q := (RX4, TX4, 4)) (ci := 3) (q0 := 15) hP hE rfl rfl [15] rfl) rfl rfl hl.1 rfl (lv_room (Nat.le_of_ble_eq_true rfl)) dX12_compare_40 ⟨Nat.le_of_ble_eq_true rfl, Nat.le_of_ble_eq_true rfl⟩) (fun r_35 hr_35 => ?_)
          rcases ff_post hr_35 with ⟨c_36, rfl⟩ | ⟨c_36, rfl⟩ | ⟨c_36, rfl⟩
          · refine lv_istore (lv' := [(6, .int (-11)), (5, .ref t2), (0, .ref h0), (1, .int 2), (2, .int x2), (3, .int x3), (4, .int x4)]) hx hb dX12_compare_43 hl (by decide +kernel) rfl (fun ls hl => ?_)
            refine lv_iload hx hb dX12_compare_45 (lv_at hl 0 rfl) ?_
            refine lv_if_eq (tgt := 53) hx hb dX12_compare_47 (by decide +kernel) (fun c9 => absurd c9 (by decide +kernel)) (fun _ => ?_)
            refine lv_iload hx hb dX12_compare_50 (lv_at hl 0 rfl) ?_
            exact W.iret hx hb hr (fun t ht hW => ⟨⟨_, (g0, g1, g4), rfl, ⟨(show cpQ (VALW l9 f1 f2 f3 f4 f5) n0 (0 ≤ (2 : Int32).toInt ∧ (2 : Int32).toInt ≤ 3) (jz 2) (redW (ja 2) (jb 2)) x2 x3 x4 ((-11) : Int32) from (Or.inr ⟨⟨(by decide +kernel), ⟨(by omega), (by omega)⟩, ⟨(by omega), (by omega)⟩, (by omega), (by omega)⟩, Or.inl ⟨(show (jz 2).toInt = 0 from by omega), (by decide +kernel)⟩⟩)), hst⟩, by rw [ht]; exact hP.sub [0, 1, 2, 3, 4, 5, 6, 7, 8, 9, 10, 11, 12, 13, 14, 15, 16] rfl, hD.sub [0, 1, 2, 3, 4, 5, 6, 7, 8, 9, 10, 11, 12, 13, 14, 15, 16] (by decide +kernel) rfl⟩, hS.F ht⟩) hS.2.2 dX12_compare_52
          · refine lv_istore (lv' := [(6, .int 0), (5, .ref t2), (0, .ref h0), (1, .int 2), (2, .int x2), (3, .int x3), (4, .int x4)]) hx hb dX12_compare_43 hl (by decide +kernel) rfl (fun ls hl => ?_)
            refine lv_iload hx hb dX12_compare_45 (lv_at hl 0 rfl) ?_
            refine lv_if_eq (tgt := 53) hx hb dX12_compare_47 (by decide +kernel) (fun _ => ?_) (fun c9 => absurd c9 (by decide +kernel))
            refine lv_aload_n hx hb dX12_compare_53 rfl (lv_at hl 2 rfl) ?_
            refine va_get (D := D) (ci := 9) (v := .ref wo) (C := RX12) (T := TX12) (N := 11) hx hb hts in_X12_compare_X12 hown hE.1 hP 0 rfl rfl 6 (by decide +kernel) (hts (.fieldLink RX12 43 "ClauseBook" "worth" "LClauseBook$Worth;") (List.mem_of_getElem? (i := 3) rfl)) (fun _ h9 => h9) e0_6 dX12_compare_54 ?_
            refine lv_iload_n hx hb dX12_compare_57 rfl (lv_at hl 4 rfl) ?_
            refine lv_iload_n hx hb dX12_compare_58 rfl (lv_at hl 5 rfl) ?_
            refine lv_iload hx hb dX12_compare_59 (lv_at hl 6 rfl) ?_
            have hFc := va_free (wc := [(wo, .inr (8, [.ref la, .ref cl, .ref p0, .ref p1, .ref p4, .int n])), (la, .inr (5, [.int (l9 0), .int (l9 1), .int (l9 2), .int (l9 3), .int (l9 4), .int (l9 5), .int (l9 6)])), (cl, .inr (1, [.int n0, .ref c1, .ref c2, .ref c3, .ref c4, .ref c5, .ref c6, .ref c7])), (c1, .inl (T 0, 24, .inl f1)), (c2, .inl (T 0, 24, .inl f2)), (c3, .inl (T 0, 24, .inl f3)), (c4, .inl (T 0, 24, .inl f4)), (c5, .inl (T 0, 24, .inl f5)), (p0, .inl (T 1, 676, .inr (.inl g0))), (p1, .inl (T 1, 676, .inr (.inl g1))), (p4, .inl (T 0, 672, .inl g4))]) hD hS hA [1, 2, 3, 4, 5, 6, 7, 8, 9, 10, 11] rfl
            refine va_calli (va_runV (As := [.int x2, .int x3, .int x4]) (rest := []) ⟨hx, hb, hml, hown, hts⟩ (cS_all l D T ad sa av ta 30 _ wo la cl p0 p1 p4 n l9 n0 c1 c2 c3 c4 c5 c6 c7 f1 f2 f3 f4 f5 g0 g1 g4 x2 x3 x4 (by omega) (by omega) (by omega) hok (by omega) hmm hlq (by omega)) (cwV 3 hts gX12_compare_X11_settle rfl rfl rfl hv_X11_settle ⟨Nat.le_of_ble_eq_true rfl, Nat.le_of_ble_eq_true rfl⟩) (pWk_V (q := (RX11, TX11, 6)) (ci := 8) (q0 := 1) hP hE hD hV hS hFc rfl rfl [1, 2, 3, 4, 5, 6, 7, 8, 9, 10, 11] (by decide +kernel) rfl rfl) rfl rfl hl.1 rfl (lv_room (Nat.le_of_ble_eq_true rfl)) dX12_compare_61 ⟨Nat.le_of_ble_eq_true rfl, Nat.le_of_ble_eq_true rfl⟩) hS (fun q _ h => hFc q h) hFc (fun r_37 u_38 t H1 locs ht hvm hr_37 hB hz1 hk1 hS => ?_)
            obtain ⟨f_39, f_40, f_41⟩ := u_38
            obtain ⟨hqr_37, hsl_r_37, hfo_r_37, hstr_37⟩ := hr_37
            have hqr_37 : 0 ≤ r_37.toInt ∧ r_37.toInt < 672 := hqr_37
            have hsl_r_37 : r_37.toNatClampNeg = slN x2 x3 x4 := hsl_r_37
            have hfo_r_37 : f_41 (slN x2 x3 x4) = n := hfo_r_37
            have hsr_37 : stW (VALW l9 f1 f2 f3 f4 f5) n0 n (rgW x2 x3) g0 g1 g4 f_39 f_40 f_41 := hstr_37
            have hst : stW (VALW l9 f1 f2 f3 f4 f5) n0 n (fun _ => True) g0 g1 g4 f_39 f_40 f_41 := hst.tr hsr_37 (fun _ _ => trivial)
            have hmm : memW (VALW l9 f1 f2 f3 f4 f5) n0 n f_39 f_40 f_41 := hst.1
            have hv_r_37 : (f_39 (r_37.toNatClampNeg), f_40 (r_37.toNatClampNeg)) = (VALW l9 f1 f2 f3 f4 f5) x2 x3 x4 := hst.val (by omega) (by omega) (by first | (rw [ti_0]; omega) | omega) hsl_r_37 hfo_r_37
            have hb_r_37 : 0 ≤ (f_40 (r_37.toNatClampNeg)).toInt := val_nn (VAL_low hlq.1 hlq.2 31 _ _ _) hv_r_37
            obtain ⟨hP1, hD1⟩ := hB
            rw [ht] at hP1
            obtain ⟨hP, hD⟩ := va_repl [(h0, .inr (9, fs0)), (wo, .inr (8, [.ref la, .ref cl, .ref p0, .ref p1, .ref p4, .int n])), (la, .inr (5, [.int (l9 0), .int (l9 1), .int (l9 2), .int (l9 3), .int (l9 4), .int (l9 5), .int (l9 6)])), (cl, .inr (1, [.int n0, .ref c1, .ref c2, .ref c3, .ref c4, .ref c5, .ref c6, .ref c7])), (c1, .inl (T 0, 24, .inl f1)), (c2, .inl (T 0, 24, .inl f2)), (c3, .inl (T 0, 24, .inl f3)), (c4, .inl (T 0, 24, .inl f4)), (c5, .inl (T 0, 24, .inl f5)), (p0, .inl (T 1, 676, .inr (.inl f_39))), (p1, .inl (T 1, 676, .inr (.inl f_40))), (p4, .inl (T 0, 672, .inl f_41)), (h3, .inl (T 7, 4, .inr (.inr (.inr (.inr (va_up (va_up (va_up (va_up (fun _ => none) 0 (some t0)) 1 (some t1)) 2 (some t2)) 3 (some t3))))))), (t0, .inr (3, [.int (jz 0), .int (jn 0), .long (ja 0), .long (jb 0)])), (t1, .inr (3, [.int (jz 1), .int (jn 1), .long (ja 1), .long (jb 1)])), (t2, .inr (3, [.int (jz 2), .int (jn 2), .long (ja 2), .long (jb 2)])), (t3, .inr (3, [.int (jz 3), .int (jn 3), .long (ja 3), .long (jb 3)]))] hP hD [1, 2, 3, 4, 5, 6, 7, 8, 9, 10, 11] [1, 2, 3, 4, 5, 6, 7, 8, 9, 10, 11] rfl (by decide +kernel) rfl rfl rfl hk1 hP1
            clear hP1 hD1 hFc
            generalize H1 = H at hP hS ⊢
            refine lv_istore (lv' := [(7, .int r_37), (6, .int 0), (5, .ref t2), (0, .ref h0), (1, .int 2), (2, .int x2), (3, .int x3), (4, .int x4)]) hx hb dX12_compare_64 hl (by decide +kernel) rfl (fun ls hl => ?_)
            refine lv_aload_n hx hb dX12_compare_66 rfl (lv_at hl 3 rfl) ?_
            refine va_get (D := D) (ci := 9) (v := .ref wo) (C := RX12) (T := TX12) (N := 11) hx hb hts in_X12_compare_X12 hown hE.1 hP 0 rfl rfl 6 (by decide +kernel) (hts (.fieldLink RX12 43 "ClauseBook" "worth" "LClauseBook$Worth;") (List.mem_of_getElem? (i := 3) rfl)) (fun _ h9 => h9) e0_6 dX12_compare_67 ?_
            refine lv_iload hx hb dX12_compare_70 (lv_at hl 0 rfl) ?_
            refine vp_callSi (W.runV (As := [.int r_37]) (rest := []) ⟨hx, hb, hml, hown, hts⟩ (c_X11_isMuch l D T wo [.ref la, .ref cl, .ref p0, .ref p1, .ref p4, .int n] p1 f_40 r_37 rfl (by first | decide | omega)) (cwV 1 hts gX12_compare_X11_isMuch rfl rfl rfl hv_X11_isMuch ⟨Nat.le_of_ble_eq_true rfl, Nat.le_of_ble_eq_true rfl⟩) (pR_V (q := (RX11, TX11, 6)) (ci := 8) (q0 := 1) hP hE rfl rfl [1, 10] rfl) rfl rfl hl.1 rfl (lv_room (Nat.le_of_ble_eq_true rfl)) dX12_compare_72 ⟨Nat.le_of_ble_eq_true rfl, Nat.le_of_ble_eq_true rfl⟩) (fun r_42 hr_42 => ?_)
            rcases bool_post hr_42 with ⟨c_43, rfl⟩ | ⟨c_43, rfl⟩
            · refine lv_if_eq (tgt := 81) hx hb dX12_compare_75 (by decide +kernel) (fun c9 => absurd c9 (by decide +kernel)) (fun _ => ?_)
              refine lv_bipush (v := (-5)) hx hb dX12_compare_78 (by decide +kernel) ?_
              exact W.iret hx hb hr (fun t ht hW => ⟨⟨_, (f_39, f_40, f_41), rfl, ⟨(show cpQ (VALW l9 f1 f2 f3 f4 f5) n0 (0 ≤ (2 : Int32).toInt ∧ (2 : Int32).toInt ≤ 3) (jz 2) (redW (ja 2) (jb 2)) x2 x3 x4 ((-5) : Int32) from (Or.inr ⟨⟨(by decide +kernel), ⟨(by omega), (by omega)⟩, ⟨(by omega), (by omega)⟩, (by omega), (by omega)⟩, Or.inr (Or.inr ⟨(show (jz 2).toInt = 2 from by omega), Or.inl ⟨mu_of hv_r_37 (by omega), (by decide +kernel)⟩⟩)⟩)), hst⟩, by rw [ht]; exact hP.sub [0, 1, 2, 3, 4, 5, 6, 7, 8, 9, 10, 11, 12, 13, 14, 15, 16] rfl, hD.sub [0, 1, 2, 3, 4, 5, 6, 7, 8, 9, 10, 11, 12, 13, 14, 15, 16] (by decide +kernel) rfl⟩, hS.F ht⟩) hS.2.2 dX12_compare_80
            · refine lv_if_eq (tgt := 81) hx hb dX12_compare_75 (by decide +kernel) (fun _ => ?_) (fun c9 => absurd c9 (by decide +kernel))
              have hjb9 : 1 ≤ (jb 2).toInt := hhb 2 (by decide +kernel) (by omega)
              have hnv9 : ¬ ((VALW l9 f1 f2 f3 f4 f5) x2 x3 x4).2.toInt = 0 := nmu_of hv_r_37 (by omega)
              refine lv_aload_n hx hb dX12_compare_81 rfl (lv_at hl 3 rfl) ?_
              refine va_get (D := D) (ci := 9) (v := .ref wo) (C := RX12) (T := TX12) (N := 11) hx hb hts in_X12_compare_X12 hown hE.1 hP 0 rfl rfl 6 (by decide +kernel) (hts (.fieldLink RX12 43 "ClauseBook" "worth" "LClauseBook$Worth;") (List.mem_of_getElem? (i := 3) rfl)) (fun _ h9 => h9) e0_6 dX12_compare_82 ?_
              refine lv_sipush (v := 675) hx hb dX12_compare_85 (by decide +kernel) ?_
              refine lv_aload hx hb dX12_compare_88 (lv_at hl 2 rfl) ?_
              refine va_get (D := D) (ci := 3) (v := .long (ja 2)) (C := RX4) (T := TX4) (N := 4) hx hb hts in_X12_compare_X4 hown hE.1 hP 15 rfl rfl 2 (by decide +kernel) (hts (.fieldLink RX12 365 "ClauseBook$Hand" "above" "J") (List.mem_of_getElem? (i := 4) rfl)) (fun _ h9 => h9) rfl dX12_compare_90 ?_
              refine lv_aload hx hb dX12_compare_93 (lv_at hl 2 rfl) ?_
              refine va_get (D := D) (ci := 3) (v := .long (jb 2)) (C := RX4) (T := TX4) (N := 4) hx hb hts in_X12_compare_X4 hown hE.1 hP 15 rfl rfl 3 (by decide +kernel) (hts (.fieldLink RX12 368 "ClauseBook$Hand" "below" "J") (List.mem_of_getElem? (i := 5) rfl)) (fun _ h9 => h9) rfl dX12_compare_95 ?_
              have hFc := va_free (wc := [(wo, .inr (8, [.ref la, .ref cl, .ref p0, .ref p1, .ref p4, .int n])), (p0, .inl (T 1, 676, .inr (.inl f_39))), (p1, .inl (T 1, 676, .inr (.inl f_40)))]) hD hS hA [1, 9, 10] rfl
              refine va_callv (va_runV (As := [.int 675, .long (ja 2), .long (jb 2)]) (rest := []) ⟨hx, hb, hml, hown, hts⟩ (c_X11_reduce l D T _ wo p0 p1 (.ref la) (.ref cl) (.ref p4) n f_39 f_40 675 (ja 2) (jb 2) (by first | decide | omega) (by omega)) (cwV 3 hts gX12_compare_X11_reduce rfl rfl rfl hv_X11_reduce ⟨Nat.le_of_ble_eq_true rfl, Nat.le_of_ble_eq_true rfl⟩) (pW_V (q := (RX11, TX11, 6)) (ci := 8) (q0 := 1) hP hE hD rfl rfl [1, 9, 10] (by decide +kernel) rfl rfl) rfl rfl hl.1 rfl (lv_room (Nat.le_of_ble_eq_true rfl)) dX12_compare_98 ⟨Nat.le_of_ble_eq_true rfl, Nat.le_of_ble_eq_true rfl⟩) hS (fun q _ h => hFc q h) hFc (fun u_45 t H1 locs ht hvm hr_44 hB hz1 hk1 hS => ?_)
              obtain ⟨f_46, f_47⟩ := u_45
              have hrd1 : f_46 = vp_updL f_39 ((675 : Int32).toNatClampNeg) (redW (ja 2) (jb 2)).1 := hr_44.1
              have hrd2 : f_47 = vp_updL f_40 ((675 : Int32).toNatClampNeg) (redW (ja 2) (jb 2)).2 := hr_44.2
              have hnw9 : (f_46 ((675 : Int32).toNatClampNeg), f_47 ((675 : Int32).toNatClampNeg)) = redW (ja 2) (jb 2) := by rw [put_at (q := redW (ja 2) (jb 2)) hrd1 hrd2]
              have hp_675 := hnw9
              have hst : stW (VALW l9 f1 f2 f3 f4 f5) n0 n (fun _ => True) g0 g1 g4 f_46 f_47 f_41 := by rw [hrd1, hrd2]; exact hst.put (fun h9 => absurd h9 (by decide +kernel))
              have hmm : memW (VALW l9 f1 f2 f3 f4 f5) n0 n f_46 f_47 f_41 := hst.1
              have hv_r_37 : (f_46 (r_37.toNatClampNeg), f_47 (r_37.toNatClampNeg)) = (VALW l9 f1 f2 f3 f4 f5) x2 x3 x4 := hst.val (by omega) (by omega) (by omega) hsl_r_37 hfo_r_37
              have hb_r_37 : 0 ≤ (f_47 (r_37.toNatClampNeg)).toInt := val_nn (VAL_low hlq.1 hlq.2 31 _ _ _) hv_r_37
              obtain ⟨hP1, hD1⟩ := hB
              rw [ht] at hP1
              obtain ⟨hP, hD⟩ := va_repl [(h0, .inr (9, fs0)), (wo, .inr (8, [.ref la, .ref cl, .ref p0, .ref p1, .ref p4, .int n])), (la, .inr (5, [.int (l9 0), .int (l9 1), .int (l9 2), .int (l9 3), .int (l9 4), .int (l9 5), .int (l9 6)])), (cl, .inr (1, [.int n0, .ref c1, .ref c2, .ref c3, .ref c4, .ref c5, .ref c6, .ref c7])), (c1, .inl (T 0, 24, .inl f1)), (c2, .inl (T 0, 24, .inl f2)), (c3, .inl (T 0, 24, .inl f3)), (c4, .inl (T 0, 24, .inl f4)), (c5, .inl (T 0, 24, .inl f5)), (p0, .inl (T 1, 676, .inr (.inl f_46))), (p1, .inl (T 1, 676, .inr (.inl f_47))), (p4, .inl (T 0, 672, .inl f_41)), (h3, .inl (T 7, 4, .inr (.inr (.inr (.inr (va_up (va_up (va_up (va_up (fun _ => none) 0 (some t0)) 1 (some t1)) 2 (some t2)) 3 (some t3))))))), (t0, .inr (3, [.int (jz 0), .int (jn 0), .long (ja 0), .long (jb 0)])), (t1, .inr (3, [.int (jz 1), .int (jn 1), .long (ja 1), .long (jb 1)])), (t2, .inr (3, [.int (jz 2), .int (jn 2), .long (ja 2), .long (jb 2)])), (t3, .inr (3, [.int (jz 3), .int (jn 3), .long (ja 3), .long (jb 3)]))] hP hD [1, 9, 10] [1, 9, 10] rfl (by decide +kernel) rfl rfl rfl hk1 hP1
              clear hP1 hD1 hFc
              generalize H1 = H at hP hS ⊢
              have hb675 : 1 ≤ (f_47 ((675 : Int32).toNatClampNeg)).toInt := one_le hp_675 (redW_pos hjb9)
              have hnm9 : ¬ (f_47 (r_37.toNatClampNeg)).toInt = 0 := nmu_to hv_r_37 hnv9
              refine lv_aload_n hx hb dX12_compare_101 rfl (lv_at hl 3 rfl) ?_
              refine va_get (D := D) (ci := 9) (v := .ref wo) (C := RX12) (T := TX12) (N := 11) hx hb hts in_X12_compare_X12 hown hE.1 hP 0 rfl rfl 6 (by decide +kernel) (hts (.fieldLink RX12 43 "ClauseBook" "worth" "LClauseBook$Worth;") (List.mem_of_getElem? (i := 3) rfl)) (fun _ h9 => h9) e0_6 dX12_compare_102 ?_
              refine lv_iload hx hb dX12_compare_105 (lv_at hl 0 rfl) ?_
              refine lv_sipush (v := 675) hx hb dX12_compare_107 (by decide +kernel) ?_
              refine vp_callSi (W.runV (As := [.int r_37, .int 675]) (rest := []) ⟨hx, hb, hml, hown, hts⟩ (c_X11_order l D T wo [.ref la, .ref cl, .ref p0, .ref p1, .ref p4, .int n] p1 f_47 p0 f_46 r_37 675 rfl rfl (by first | decide | omega) (by first | decide | omega) (by first | omega | assumption | decide) (by first | omega | assumption | decide)) (cwV 2 hts gX12_compare_X11_order rfl rfl rfl hv_X11_order ⟨Nat.le_of_ble_eq_true rfl, Nat.le_of_ble_eq_true rfl⟩) (pR_V (q := (RX11, TX11, 6)) (ci := 8) (q0 := 1) hP hE rfl rfl [1, 10, 9] rfl) rfl rfl hl.1 rfl (lv_room (Nat.le_of_ble_eq_true rfl)) dX12_compare_110 ⟨Nat.le_of_ble_eq_true rfl, Nat.le_of_ble_eq_true rfl⟩) (fun r_48 hr_48 => ?_)
              exact W.iret hx hb hr (fun t ht hW => ⟨⟨_, (f_46, f_47, f_41), rfl, ⟨(show cpQ (VALW l9 f1 f2 f3 f4 f5) n0 (0 ≤ (2 : Int32).toInt ∧ (2 : Int32).toInt ≤ 3) (jz 2) (redW (ja 2) (jb 2)) x2 x3 x4 r_48 from (Or.inr ⟨⟨(by decide +kernel), ⟨(by omega), (by omega)⟩, ⟨(by omega), (by omega)⟩, (by omega), (by omega)⟩, Or.inr (Or.inr ⟨(show (jz 2).toInt = 2 from by omega), Or.inr ⟨hnv9, hr_48.trans (cmp_of hv_r_37 hp_675).symm⟩⟩)⟩)), hst⟩, by rw [ht]; exact hP.sub [0, 1, 2, 3, 4, 5, 6, 7, 8, 9, 10, 11, 12, 13, 14, 15, 16] rfl, hD.sub [0, 1, 2, 3, 4, 5, 6, 7, 8, 9, 10, 11, 12, 13, 14, 15, 16] (by decide +kernel) rfl⟩, hS.F ht⟩) hS.2.2 dX12_compare_113
          · refine lv_istore (lv' := [(6, .int (-13)), (5, .ref t2), (0, .ref h0), (1, .int 2), (2, .int x2), (3, .int x3), (4, .int x4)]) hx hb dX12_compare_43 hl (by decide +kernel) rfl (fun ls hl => ?_)
            refine lv_iload hx hb dX12_compare_45 (lv_at hl 0 rfl) ?_
            refine lv_if_eq (tgt := 53) hx hb dX12_compare_47 (by decide +kernel) (fun c9 => absurd c9 (by decide +kernel)) (fun _ => ?_)
            refine lv_iload hx hb dX12_compare_50 (lv_at hl 0 rfl) ?_
            exact W.iret hx hb hr (fun t ht hW => ⟨⟨_, (g0, g1, g4), rfl, ⟨(show cpQ (VALW l9 f1 f2 f3 f4 f5) n0 (0 ≤ (2 : Int32).toInt ∧ (2 : Int32).toInt ≤ 3) (jz 2) (redW (ja 2) (jb 2)) x2 x3 x4 ((-13) : Int32) from (Or.inr ⟨⟨(by decide +kernel), ⟨(by omega), (by omega)⟩, ⟨(by omega), (by omega)⟩, (by omega), (by omega)⟩, Or.inr (Or.inl ⟨(show (jz 2).toInt ≠ 0 from by omega), (show (jz 2).toInt ≠ 2 from by omega), (by decide +kernel)⟩)⟩)), hst⟩, by rw [ht]; exact hP.sub [0, 1, 2, 3, 4, 5, 6, 7, 8, 9, 10, 11, 12, 13, 14, 15, 16] rfl, hD.sub [0, 1, 2, 3, 4, 5, 6, 7, 8, 9, 10, 11, 12, 13, 14, 15, 16] (by decide +kernel) rfl⟩, hS.F ht⟩) hS.2.2 dX12_compare_52
        · refine va_aldq hx hb hE.1 hP 12 7 rfl rfl (by unfold vp_in; decide) dX12_compare_35 ?_
          refine W.eq (g2 := F0 m 36 ls [.ref t3]) rfl ?_
          refine lv_astore (lv' := [(5, .ref t3), (0, .ref h0), (1, .int 3), (2, .int x2), (3, .int x3), (4, .int x4)]) hx hb dX12_compare_36 hl (by decide +kernel) rfl (fun ls hl => ?_)
          refine lv_aload hx hb dX12_compare_38 (lv_at hl 0 rfl) ?_
          refine vp_callSi (W.runV (As := []) (rest := []) ⟨hx, hb, hml, hown, hts⟩ (c_X4_fractionFault l D T t3 [.int (jz 3), .int (jn 3), .long (ja 3), .long (jb 3)] (jz 3) rfl) (cwV 0 hts gX12_compare_X4_fractionFault rfl rfl rfl hv_X4_fractionFault ⟨Nat.le_of_ble_eq_true rfl, Nat.le_of_ble_eq_true rfl⟩) (pR_V (q := (RX4, TX4, 4)) (ci := 3) (q0 := 16) hP hE rfl rfl [16] rfl) rfl rfl hl.1 rfl (lv_room (Nat.le_of_ble_eq_true rfl)) dX12_compare_40 ⟨Nat.le_of_ble_eq_true rfl, Nat.le_of_ble_eq_true rfl⟩) (fun r_49 hr_49 => ?_)
          rcases ff_post hr_49 with ⟨c_50, rfl⟩ | ⟨c_50, rfl⟩ | ⟨c_50, rfl⟩
          · refine lv_istore (lv' := [(6, .int (-11)), (5, .ref t3), (0, .ref h0), (1, .int 3), (2, .int x2), (3, .int x3), (4, .int x4)]) hx hb dX12_compare_43 hl (by decide +kernel) rfl (fun ls hl => ?_)
            refine lv_iload hx hb dX12_compare_45 (lv_at hl 0 rfl) ?_
            refine lv_if_eq (tgt := 53) hx hb dX12_compare_47 (by decide +kernel) (fun c9 => absurd c9 (by decide +kernel)) (fun _ => ?_)
            refine lv_iload hx hb dX12_compare_50 (lv_at hl 0 rfl) ?_
            exact W.iret hx hb hr (fun t ht hW => ⟨⟨_, (g0, g1, g4), rfl, ⟨(show cpQ (VALW l9 f1 f2 f3 f4 f5) n0 (0 ≤ (3 : Int32).toInt ∧ (3 : Int32).toInt ≤ 3) (jz 3) (redW (ja 3) (jb 3)) x2 x3 x4 ((-11) : Int32) from (Or.inr ⟨⟨(by decide +kernel), ⟨(by omega), (by omega)⟩, ⟨(by omega), (by omega)⟩, (by omega), (by omega)⟩, Or.inl ⟨(show (jz 3).toInt = 0 from by omega), (by decide +kernel)⟩⟩)), hst⟩, by rw [ht]; exact hP.sub [0, 1, 2, 3, 4, 5, 6, 7, 8, 9, 10, 11, 12, 13, 14, 15, 16] rfl, hD.sub [0, 1, 2, 3, 4, 5, 6, 7, 8, 9, 10, 11, 12, 13, 14, 15, 16] (by decide +kernel) rfl⟩, hS.F ht⟩) hS.2.2 dX12_compare_52
          · refine lv_istore (lv' := [(6, .int 0), (5, .ref t3), (0, .ref h0), (1, .int 3), (2, .int x2), (3, .int x3), (4, .int x4)]) hx hb dX12_compare_43 hl (by decide +kernel) rfl (fun ls hl => ?_)
            refine lv_iload hx hb dX12_compare_45 (lv_at hl 0 rfl) ?_
            refine lv_if_eq (tgt := 53) hx hb dX12_compare_47 (by decide +kernel) (fun _ => ?_) (fun c9 => absurd c9 (by decide +kernel))
            refine lv_aload_n hx hb dX12_compare_53 rfl (lv_at hl 2 rfl) ?_
            refine va_get (D := D) (ci := 9) (v := .ref wo) (C := RX12) (T := TX12) (N := 11) hx hb hts in_X12_compare_X12 hown hE.1 hP 0 rfl rfl 6 (by decide +kernel) (hts (.fieldLink RX12 43 "ClauseBook" "worth" "LClauseBook$Worth;") (List.mem_of_getElem? (i := 3) rfl)) (fun _ h9 => h9) e0_6 dX12_compare_54 ?_
            refine lv_iload_n hx hb dX12_compare_57 rfl (lv_at hl 4 rfl) ?_
            refine lv_iload_n hx hb dX12_compare_58 rfl (lv_at hl 5 rfl) ?_
            refine lv_iload hx hb dX12_compare_59 (lv_at hl 6 rfl) ?_
            have hFc := va_free (wc := [(wo, .inr (8, [.ref la, .ref cl, .ref p0, .ref p1, .ref p4, .int n])), (la, .inr (5, [.int (l9 0), .int (l9 1), .int (l9 2), .int (l9 3), .int (l9 4), .int (l9 5), .int (l9 6)])), (cl, .inr (1, [.int n0, .ref c1, .ref c2, .ref c3, .ref c4, .ref c5, .ref c6, .ref c7])), (c1, .inl (T 0, 24, .inl f1)), (c2, .inl (T 0, 24, .inl f2)), (c3, .inl (T 0, 24, .inl f3)), (c4, .inl (T 0, 24, .inl f4)), (c5, .inl (T 0, 24, .inl f5)), (p0, .inl (T 1, 676, .inr (.inl g0))), (p1, .inl (T 1, 676, .inr (.inl g1))), (p4, .inl (T 0, 672, .inl g4))]) hD hS hA [1, 2, 3, 4, 5, 6, 7, 8, 9, 10, 11] rfl
            refine va_calli (va_runV (As := [.int x2, .int x3, .int x4]) (rest := []) ⟨hx, hb, hml, hown, hts⟩ (cS_all l D T ad sa av ta 30 _ wo la cl p0 p1 p4 n l9 n0 c1 c2 c3 c4 c5 c6 c7 f1 f2 f3 f4 f5 g0 g1 g4 x2 x3 x4 (by omega) (by omega) (by omega) hok (by omega) hmm hlq (by omega)) (cwV 3 hts gX12_compare_X11_settle rfl rfl rfl hv_X11_settle ⟨Nat.le_of_ble_eq_true rfl, Nat.le_of_ble_eq_true rfl⟩) (pWk_V (q := (RX11, TX11, 6)) (ci := 8) (q0 := 1) hP hE hD hV hS hFc rfl rfl [1, 2, 3, 4, 5, 6, 7, 8, 9, 10, 11] (by decide +kernel) rfl rfl) rfl rfl hl.1 rfl (lv_room (Nat.le_of_ble_eq_true rfl)) dX12_compare_61 ⟨Nat.le_of_ble_eq_true rfl, Nat.le_of_ble_eq_true rfl⟩) hS (fun q _ h => hFc q h) hFc (fun r_51 u_52 t H1 locs ht hvm hr_51 hB hz1 hk1 hS => ?_)
            obtain ⟨f_53, f_54, f_55⟩ := u_52
            obtain ⟨hqr_51, hsl_r_51, hfo_r_51, hstr_51⟩ := hr_51
            have hqr_51 : 0 ≤ r_51.toInt ∧ r_51.toInt < 672 := hqr_51
            have hsl_r_51 : r_51.toNatClampNeg = slN x2 x3 x4 := hsl_r_51
            have hfo_r_51 : f_55 (slN x2 x3 x4) = n := hfo_r_51
            have hsr_51 : stW (VALW l9 f1 f2 f3 f4 f5) n0 n (rgW x2 x3) g0 g1 g4 f_53 f_54 f_55 := hstr_51
            have hst : stW (VALW l9 f1 f2 f3 f4 f5) n0 n (fun _ => True) g0 g1 g4 f_53 f_54 f_55 := hst.tr hsr_51 (fun _ _ => trivial)
            have hmm : memW (VALW l9 f1 f2 f3 f4 f5) n0 n f_53 f_54 f_55 := hst.1
            have hv_r_51 : (f_53 (r_51.toNatClampNeg), f_54 (r_51.toNatClampNeg)) = (VALW l9 f1 f2 f3 f4 f5) x2 x3 x4 := hst.val (by omega) (by omega) (by first | (rw [ti_0]; omega) | omega) hsl_r_51 hfo_r_51
            have hb_r_51 : 0 ≤ (f_54 (r_51.toNatClampNeg)).toInt := val_nn (VAL_low hlq.1 hlq.2 31 _ _ _) hv_r_51
            obtain ⟨hP1, hD1⟩ := hB
            rw [ht] at hP1
            obtain ⟨hP, hD⟩ := va_repl [(h0, .inr (9, fs0)), (wo, .inr (8, [.ref la, .ref cl, .ref p0, .ref p1, .ref p4, .int n])), (la, .inr (5, [.int (l9 0), .int (l9 1), .int (l9 2), .int (l9 3), .int (l9 4), .int (l9 5), .int (l9 6)])), (cl, .inr (1, [.int n0, .ref c1, .ref c2, .ref c3, .ref c4, .ref c5, .ref c6, .ref c7])), (c1, .inl (T 0, 24, .inl f1)), (c2, .inl (T 0, 24, .inl f2)), (c3, .inl (T 0, 24, .inl f3)), (c4, .inl (T 0, 24, .inl f4)), (c5, .inl (T 0, 24, .inl f5)), (p0, .inl (T 1, 676, .inr (.inl f_53))), (p1, .inl (T 1, 676, .inr (.inl f_54))), (p4, .inl (T 0, 672, .inl f_55)), (h3, .inl (T 7, 4, .inr (.inr (.inr (.inr (va_up (va_up (va_up (va_up (fun _ => none) 0 (some t0)) 1 (some t1)) 2 (some t2)) 3 (some t3))))))), (t0, .inr (3, [.int (jz 0), .int (jn 0), .long (ja 0), .long (jb 0)])), (t1, .inr (3, [.int (jz 1), .int (jn 1), .long (ja 1), .long (jb 1)])), (t2, .inr (3, [.int (jz 2), .int (jn 2), .long (ja 2), .long (jb 2)])), (t3, .inr (3, [.int (jz 3), .int (jn 3), .long (ja 3), .long (jb 3)]))] hP hD [1, 2, 3, 4, 5, 6, 7, 8, 9, 10, 11] [1, 2, 3, 4, 5, 6, 7, 8, 9, 10, 11] rfl (by decide +kernel) rfl rfl rfl hk1 hP1
            clear hP1 hD1 hFc
            generalize H1 = H at hP hS ⊢
            refine lv_istore (lv' := [(7, .int r_51), (6, .int 0), (5, .ref t3), (0, .ref h0), (1, .int 3), (2, .int x2), (3, .int x3), (4, .int x4)]) hx hb dX12_compare_64 hl (by decide +kernel) rfl (fun ls hl => ?_)
            refine lv_aload_n hx hb dX12_compare_66 rfl (lv_at hl 3 rfl) ?_
            refine va_get (D := D) (ci := 9) (v := .ref wo) (C := RX12) (T := TX12) (N := 11) hx hb hts in_X12_compare_X12 hown hE.1 hP 0 rfl rfl 6 (by decide +kernel) (hts (.fieldLink RX12 43 "ClauseBook" "worth" "LClauseBook$Worth;") (List.mem_of_getElem? (i := 3) rfl)) (fun _ h9 => h9) e0_6 dX12_compare_67 ?_
            refine lv_iload hx hb dX12_compare_70 (lv_at hl 0 rfl) ?_
            refine vp_callSi (W.runV (As := [.int r_51]) (rest := []) ⟨hx, hb, hml, hown, hts⟩ (c_X11_isMuch l D T wo [.ref la, .ref cl, .ref p0, .ref p1, .ref p4, .int n] p1 f_54 r_51 rfl (by first | decide | omega)) (cwV 1 hts gX12_compare_X11_isMuch rfl rfl rfl hv_X11_isMuch ⟨Nat.le_of_ble_eq_true rfl, Nat.le_of_ble_eq_true rfl⟩) (pR_V (q := (RX11, TX11, 6)) (ci := 8) (q0 := 1) hP hE rfl rfl [1, 10] rfl) rfl rfl hl.1 rfl (lv_room (Nat.le_of_ble_eq_true rfl)) dX12_compare_72 ⟨Nat.le_of_ble_eq_true rfl, Nat.le_of_ble_eq_true rfl⟩) (fun r_56 hr_56 => ?_)
            rcases bool_post hr_56 with ⟨c_57, rfl⟩ | ⟨c_57, rfl⟩
            · refine lv_if_eq (tgt := 81) hx hb dX12_compare_75 (by decide +kernel) (fun c9 => absurd c9 (by decide +kernel)) (fun _ => ?_)
              refine lv_bipush (v := (-5)) hx hb dX12_compare_78 (by decide +kernel) ?_
              exact W.iret hx hb hr (fun t ht hW => ⟨⟨_, (f_53, f_54, f_55), rfl, ⟨(show cpQ (VALW l9 f1 f2 f3 f4 f5) n0 (0 ≤ (3 : Int32).toInt ∧ (3 : Int32).toInt ≤ 3) (jz 3) (redW (ja 3) (jb 3)) x2 x3 x4 ((-5) : Int32) from (Or.inr ⟨⟨(by decide +kernel), ⟨(by omega), (by omega)⟩, ⟨(by omega), (by omega)⟩, (by omega), (by omega)⟩, Or.inr (Or.inr ⟨(show (jz 3).toInt = 2 from by omega), Or.inl ⟨mu_of hv_r_51 (by omega), (by decide +kernel)⟩⟩)⟩)), hst⟩, by rw [ht]; exact hP.sub [0, 1, 2, 3, 4, 5, 6, 7, 8, 9, 10, 11, 12, 13, 14, 15, 16] rfl, hD.sub [0, 1, 2, 3, 4, 5, 6, 7, 8, 9, 10, 11, 12, 13, 14, 15, 16] (by decide +kernel) rfl⟩, hS.F ht⟩) hS.2.2 dX12_compare_80
            · refine lv_if_eq (tgt := 81) hx hb dX12_compare_75 (by decide +kernel) (fun _ => ?_) (fun c9 => absurd c9 (by decide +kernel))
              have hjb9 : 1 ≤ (jb 3).toInt := hhb 3 (by decide +kernel) (by omega)
              have hnv9 : ¬ ((VALW l9 f1 f2 f3 f4 f5) x2 x3 x4).2.toInt = 0 := nmu_of hv_r_51 (by omega)
              refine lv_aload_n hx hb dX12_compare_81 rfl (lv_at hl 3 rfl) ?_
              refine va_get (D := D) (ci := 9) (v := .ref wo) (C := RX12) (T := TX12) (N := 11) hx hb hts in_X12_compare_X12 hown hE.1 hP 0 rfl rfl 6 (by decide +kernel) (hts (.fieldLink RX12 43 "ClauseBook" "worth" "LClauseBook$Worth;") (List.mem_of_getElem? (i := 3) rfl)) (fun _ h9 => h9) e0_6 dX12_compare_82 ?_
              refine lv_sipush (v := 675) hx hb dX12_compare_85 (by decide +kernel) ?_
              refine lv_aload hx hb dX12_compare_88 (lv_at hl 2 rfl) ?_
              refine va_get (D := D) (ci := 3) (v := .long (ja 3)) (C := RX4) (T := TX4) (N := 4) hx hb hts in_X12_compare_X4 hown hE.1 hP 16 rfl rfl 2 (by decide +kernel) (hts (.fieldLink RX12 365 "ClauseBook$Hand" "above" "J") (List.mem_of_getElem? (i := 4) rfl)) (fun _ h9 => h9) rfl dX12_compare_90 ?_
              refine lv_aload hx hb dX12_compare_93 (lv_at hl 2 rfl) ?_
              refine va_get (D := D) (ci := 3) (v := .long (jb 3)) (C := RX4) (T := TX4) (N := 4) hx hb hts in_X12_compare_X4 hown hE.1 hP 16 rfl rfl 3 (by decide +kernel) (hts (.fieldLink RX12 368 "ClauseBook$Hand" "below" "J") (List.mem_of_getElem? (i := 5) rfl)) (fun _ h9 => h9) rfl dX12_compare_95 ?_
              have hFc := va_free (wc := [(wo, .inr (8, [.ref la, .ref cl, .ref p0, .ref p1, .ref p4, .int n])), (p0, .inl (T 1, 676, .inr (.inl f_53))), (p1, .inl (T 1, 676, .inr (.inl f_54)))]) hD hS hA [1, 9, 10] rfl
              refine va_callv (va_runV (As := [.int 675, .long (ja 3), .long (jb 3)]) (rest := []) ⟨hx, hb, hml, hown, hts⟩ (c_X11_reduce l D T _ wo p0 p1 (.ref la) (.ref cl) (.ref p4) n f_53 f_54 675 (ja 3) (jb 3) (by first | decide | omega) (by omega)) (cwV 3 hts gX12_compare_X11_reduce rfl rfl rfl hv_X11_reduce ⟨Nat.le_of_ble_eq_true rfl, Nat.le_of_ble_eq_true rfl⟩) (pW_V (q := (RX11, TX11, 6)) (ci := 8) (q0 := 1) hP hE hD rfl rfl [1, 9, 10] (by decide +kernel) rfl rfl) rfl rfl hl.1 rfl (lv_room (Nat.le_of_ble_eq_true rfl)) dX12_compare_98 ⟨Nat.le_of_ble_eq_true rfl, Nat.le_of_ble_eq_true rfl⟩) hS (fun q _ h => hFc q h) hFc (fun u_59 t H1 locs ht hvm hr_58 hB hz1 hk1 hS => ?_)
              obtain ⟨f_60, f_61⟩ := u_59
              have hrd1 : f_60 = vp_updL f_53 ((675 : Int32).toNatClampNeg) (redW (ja 3) (jb 3)).1 := hr_58.1
              have hrd2 : f_61 = vp_updL f_54 ((675 : Int32).toNatClampNeg) (redW (ja 3) (jb 3)).2 := hr_58.2
              have hnw9 : (f_60 ((675 : Int32).toNatClampNeg), f_61 ((675 : Int32).toNatClampNeg)) = redW (ja 3) (jb 3) := by rw [put_at (q := redW (ja 3) (jb 3)) hrd1 hrd2]
              have hp_675 := hnw9
              have hst : stW (VALW l9 f1 f2 f3 f4 f5) n0 n (fun _ => True) g0 g1 g4 f_60 f_61 f_55 := by rw [hrd1, hrd2]; exact hst.put (fun h9 => absurd h9 (by decide +kernel))
              have hmm : memW (VALW l9 f1 f2 f3 f4 f5) n0 n f_60 f_61 f_55 := hst.1
              have hv_r_51 : (f_60 (r_51.toNatClampNeg), f_61 (r_51.toNatClampNeg)) = (VALW l9 f1 f2 f3 f4 f5) x2 x3 x4 := hst.val (by omega) (by omega) (by omega) hsl_r_51 hfo_r_51
              have hb_r_51 : 0 ≤ (f_61 (r_51.toNatClampNeg)).toInt := val_nn (VAL_low hlq.1 hlq.2 31 _ _ _) hv_r_51
              obtain ⟨hP1, hD1⟩ := hB
              rw [ht] at hP1
              obtain ⟨hP, hD⟩ := va_repl [(h0, .inr (9, fs0)), (wo, .inr (8, [.ref la, .ref cl, .ref p0, .ref p1, .ref p4, .int n])), (la, .inr (5, [.int (l9 0), .int (l9 1), .int (l9 2), .int (l9 3), .int (l9 4), .int (l9 5), .int (l9 6)])), (cl, .inr (1, [.int n0, .ref c1, .ref c2, .ref c3, .ref c4, .ref c5, .ref c6, .ref c7])), (c1, .inl (T 0, 24, .inl f1)), (c2, .inl (T 0, 24, .inl f2)), (c3, .inl (T 0, 24, .inl f3)), (c4, .inl (T 0, 24, .inl f4)), (c5, .inl (T 0, 24, .inl f5)), (p0, .inl (T 1, 676, .inr (.inl f_60))), (p1, .inl (T 1, 676, .inr (.inl f_61))), (p4, .inl (T 0, 672, .inl f_55)), (h3, .inl (T 7, 4, .inr (.inr (.inr (.inr (va_up (va_up (va_up (va_up (fun _ => none) 0 (some t0)) 1 (some t1)) 2 (some t2)) 3 (some t3))))))), (t0, .inr (3, [.int (jz 0), .int (jn 0), .long (ja 0), .long (jb 0)])), (t1, .inr (3, [.int (jz 1), .int (jn 1), .long (ja 1), .long (jb 1)])), (t2, .inr (3, [.int (jz 2), .int (jn 2), .long (ja 2), .long (jb 2)])), (t3, .inr (3, [.int (jz 3), .int (jn 3), .long (ja 3), .long (jb 3)]))] hP hD [1, 9, 10] [1, 9, 10] rfl (by decide +kernel) rfl rfl rfl hk1 hP1
              clear hP1 hD1 hFc
              generalize H1 = H at hP hS ⊢
              have hb675 : 1 ≤ (f_61 ((675 : Int32).toNatClampNeg)).toInt := one_le hp_675 (redW_pos hjb9)
              have hnm9 : ¬ (f_61 (r_51.toNatClampNeg)).toInt = 0 := nmu_to hv_r_51 hnv9
              refine lv_aload_n hx hb dX12_compare_101 rfl (lv_at hl 3 rfl) ?_
              refine va_get (D := D) (ci := 9) (v := .ref wo) (C := RX12) (T := TX12) (N := 11) hx hb hts in_X12_compare_X12 hown hE.1 hP 0 rfl rfl 6 (by decide +kernel) (hts (.fieldLink RX12 43 "ClauseBook" "worth" "LClauseBook$Worth;") (List.mem_of_getElem? (i := 3) rfl)) (fun _ h9 => h9) e0_6 dX12_compare_102 ?_
              refine lv_iload hx hb dX12_compare_105 (lv_at hl 0 rfl) ?_
              refine lv_sipush (v := 675) hx hb dX12_compare_107 (by decide +kernel) ?_
              refine vp_callSi (W.runV (As := [.int r_51, .int 675]) (rest := []) ⟨hx, hb, hml, hown, hts⟩ (c_X11_order l D T wo [.ref la, .ref cl, .ref p0, .ref p1, .ref p4, .int n] p1 f_61 p0 f_60 r_51 675 rfl rfl (by first | decide | omega) (by first | decide | omega) (by first | omega | assumption | decide) (by first | omega | assumption | decide)) (cwV 2 hts gX12_compare_X11_order rfl rfl rfl hv_X11_order ⟨Nat.le_of_ble_eq_true rfl, Nat.le_of_ble_eq_true rfl⟩) (pR_V (q := (RX11, TX11, 6)) (ci := 8) (q0 := 1) hP hE rfl rfl [1, 10, 9] rfl) rfl rfl hl.1 rfl (lv_room (Nat.le_of_ble_eq_true rfl)) dX12_compare_110 ⟨Nat.le_of_ble_eq_true rfl, Nat.le_of_ble_eq_true rfl⟩) (fun r_62 hr_62 => ?_)
              exact W.iret hx hb hr (fun t ht hW => ⟨⟨_, (f_60, f_61, f_55), rfl, ⟨(show cpQ (VALW l9 f1 f2 f3 f4 f5) n0 (0 ≤ (3 : Int32).toInt ∧ (3 : Int32).toInt ≤ 3) (jz 3) (redW (ja 3) (jb 3)) x2 x3 x4 r_62 from (Or.inr ⟨⟨(by decide +kernel), ⟨(by omega), (by omega)⟩, ⟨(by omega), (by omega)⟩, (by omega), (by omega)⟩, Or.inr (Or.inr ⟨(show (jz 3).toInt = 2 from by omega), Or.inr ⟨hnv9, hr_62.trans (cmp_of hv_r_51 hp_675).symm⟩⟩)⟩)), hst⟩, by rw [ht]; exact hP.sub [0, 1, 2, 3, 4, 5, 6, 7, 8, 9, 10, 11, 12, 13, 14, 15, 16] rfl, hD.sub [0, 1, 2, 3, 4, 5, 6, 7, 8, 9, 10, 11, 12, 13, 14, 15, 16] (by decide +kernel) rfl⟩, hS.F ht⟩) hS.2.2 dX12_compare_113
          · refine lv_istore (lv' := [(6, .int (-13)), (5, .ref t3), (0, .ref h0), (1, .int 3), (2, .int x2), (3, .int x3), (4, .int x4)]) hx hb dX12_compare_43 hl (by decide +kernel) rfl (fun ls hl => ?_)
            refine lv_iload hx hb dX12_compare_45 (lv_at hl 0 rfl) ?_
            refine lv_if_eq (tgt := 53) hx hb dX12_compare_47 (by decide +kernel) (fun c9 => absurd c9 (by decide +kernel)) (fun _ => ?_)
            refine lv_iload hx hb dX12_compare_50 (lv_at hl 0 rfl) ?_
            exact W.iret hx hb hr (fun t ht hW => ⟨⟨_, (g0, g1, g4), rfl, ⟨(show cpQ (VALW l9 f1 f2 f3 f4 f5) n0 (0 ≤ (3 : Int32).toInt ∧ (3 : Int32).toInt ≤ 3) (jz 3) (redW (ja 3) (jb 3)) x2 x3 x4 ((-13) : Int32) from (Or.inr ⟨⟨(by decide +kernel), ⟨(by omega), (by omega)⟩, ⟨(by omega), (by omega)⟩, (by omega), (by omega)⟩, Or.inr (Or.inl ⟨(show (jz 3).toInt ≠ 0 from by omega), (show (jz 3).toInt ≠ 2 from by omega), (by decide +kernel)⟩)⟩)), hst⟩, by rw [ht]; exact hP.sub [0, 1, 2, 3, 4, 5, 6, 7, 8, 9, 10, 11, 12, 13, 14, 15, 16] rfl, hD.sub [0, 1, 2, 3, 4, 5, 6, 7, 8, 9, 10, 11, 12, 13, 14, 15, 16] (by decide +kernel) rfl⟩, hS.F ht⟩) hS.2.2 dX12_compare_52
      · refine lv_if_ne (tgt := 30) hx hb dX12_compare_24 (by decide +kernel) (fun c9 => absurd c9 (by decide +kernel)) (fun _ => ?_)
        refine lv_bipush (v := (-2)) hx hb dX12_compare_27 (by decide +kernel) ?_
        exact W.iret hx hb hr (fun t ht hW => ⟨⟨_, (g0, g1, g4), rfl, ⟨(show cpQ (VALW l9 f1 f2 f3 f4 f5) n0 (0 ≤ x1.toInt ∧ x1.toInt ≤ 3) (jz (x1.toNatClampNeg)) (redW (ja (x1.toNatClampNeg)) (jb (x1.toNatClampNeg))) x2 x3 x4 ((-2) : Int32) from (cp_no (fun h9 => by obtain ⟨h1, h2, h3, h4⟩ := h9; omega) (by decide +kernel))), hst⟩, by rw [ht]; exact hP.sub [0, 1, 2, 3, 4, 5, 6, 7, 8, 9, 10, 11, 12, 13, 14, 15, 16] rfl, hD.sub [0, 1, 2, 3, 4, 5, 6, 7, 8, 9, 10, 11, 12, 13, 14, 15, 16] (by decide +kernel) rfl⟩, hS.F ht⟩) hS.2.2 dX12_compare_29
    · refine lv_if_eq (tgt := 27) hx hb dX12_compare_15 (by decide +kernel) (fun _ => ?_) (fun c9 => absurd c9 (by decide +kernel))
      refine lv_bipush (v := (-2)) hx hb dX12_compare_27 (by decide +kernel) ?_
      exact W.iret hx hb hr (fun t ht hW => ⟨⟨_, (g0, g1, g4), rfl, ⟨(show cpQ (VALW l9 f1 f2 f3 f4 f5) n0 (0 ≤ x1.toInt ∧ x1.toInt ≤ 3) (jz (x1.toNatClampNeg)) (redW (ja (x1.toNatClampNeg)) (jb (x1.toNatClampNeg))) x2 x3 x4 ((-2) : Int32) from (cp_no (fun h9 => by obtain ⟨h1, h2, h3, h4⟩ := h9; omega) (by decide +kernel))), hst⟩, by rw [ht]; exact hP.sub [0, 1, 2, 3, 4, 5, 6, 7, 8, 9, 10, 11, 12, 13, 14, 15, 16] rfl, hD.sub [0, 1, 2, 3, 4, 5, 6, 7, 8, 9, 10, 11, 12, 13, 14, 15, 16] (by decide +kernel) rfl⟩, hS.F ht⟩) hS.2.2 dX12_compare_29
  · refine lv_if_eq (tgt := 27) hx hb dX12_compare_4 (by decide +kernel) (fun _ => ?_) (fun c9 => absurd c9 (by decide +kernel))
    refine lv_bipush (v := (-2)) hx hb dX12_compare_27 (by decide +kernel) ?_
    exact W.iret hx hb hr (fun t ht hW => ⟨⟨_, (g0, g1, g4), rfl, ⟨(show cpQ (VALW l9 f1 f2 f3 f4 f5) n0 (0 ≤ x1.toInt ∧ x1.toInt ≤ 3) (jz (x1.toNatClampNeg)) (redW (ja (x1.toNatClampNeg)) (jb (x1.toNatClampNeg))) x2 x3 x4 ((-2) : Int32) from (cp_no (fun h9 => by obtain ⟨h1, h2, h3, h4⟩ := h9; omega) (by decide +kernel))), hst⟩, by rw [ht]; exact hP.sub [0, 1, 2, 3, 4, 5, 6, 7, 8, 9, 10, 11, 12, 13, 14, 15, 16] rfl, hD.sub [0, 1, 2, 3, 4, 5, 6, 7, 8, 9, 10, 11, 12, 13, 14, 15, 16] (by decide +kernel) rfl⟩, hS.F ht⟩) hS.2.2 dX12_compare_29
