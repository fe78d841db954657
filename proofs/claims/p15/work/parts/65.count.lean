theorem ix_nat {x y z : Int32} {n m : Int} (hx : 0 ≤ x.toInt ∧ x.toInt ≤ 100) (hy : 0 ≤ y.toInt ∧ y.toInt ≤ 100) : (x + y).toNatClampNeg = x.toNatClampNeg + y.toNatClampNeg := by
  have h1 := tn hx.1
  have h2 := tn hy.1
  have e := fb_addI (x := x) (y := y) (by omega) (by omega)
  have h3 := tn (x := x + y) (by omega)
  omega
theorem isB.and1 {x : Int32} (h : isB x) : x &&& 1 = x := by
  rcases h with rfl | rfl <;> decide
theorem and_0 {x : Int32} (h : isB x) : x &&& 0 = 0 := by
  rcases h with rfl | rfl <;> decide
theorem dX13_bagBest_0 : decode cX13_bagBest 0 = .ok (.iload_n 1, 1) := by decide +kernel
theorem dX13_bagBest_1 : decode cX13_bagBest 1 = .ok (.invokestatic 405, 3) := by decide +kernel
theorem dX13_bagBest_100 : decode cX13_bagBest 100 = .ok (.imul, 1) := by decide +kernel
theorem dX13_bagBest_101 : decode cX13_bagBest 101 = .ok (.iload 4, 2) := by decide +kernel
theorem dX13_bagBest_103 : decode cX13_bagBest 103 = .ok (.iadd, 1) := by decide +kernel
theorem dX13_bagBest_104 : decode cX13_bagBest 104 = .ok (.iaload, 1) := by decide +kernel
theorem dX13_bagBest_105 : decode cX13_bagBest 105 = .ok (.iload_n 2, 1) := by decide +kernel
theorem dX13_bagBest_106 : decode cX13_bagBest 106 = .ok (.iload_n 3, 1) := by decide +kernel
theorem dX13_bagBest_107 : decode cX13_bagBest 107 = .ok (.invokevirtual 303, 3) := by decide +kernel
theorem dX13_bagBest_110 : decode cX13_bagBest 110 = .ok (.ifCond .le 8, 3) := by decide +kernel
theorem dX13_bagBest_113 : decode cX13_bagBest 113 = .ok (.iload 6, 2) := by decide +kernel
theorem dX13_bagBest_115 : decode cX13_bagBest 115 = .ok (.goto 5, 3) := by decide +kernel
theorem dX13_bagBest_118 : decode cX13_bagBest 118 = .ok (.iload 4, 2) := by decide +kernel
theorem dX13_bagBest_12 : decode cX13_bagBest 12 = .ok (.ifCond .ne 6, 3) := by decide +kernel
theorem dX13_bagBest_120 : decode cX13_bagBest 120 = .ok (.istore 4, 2) := by decide +kernel
theorem dX13_bagBest_122 : decode cX13_bagBest 122 = .ok (.iinc 6 1, 3) := by decide +kernel
theorem dX13_bagBest_125 : decode cX13_bagBest 125 = .ok (.goto (-88), 3) := by decide +kernel
theorem dX13_bagBest_128 : decode cX13_bagBest 128 = .ok (.iload 5, 2) := by decide +kernel
theorem dX13_bagBest_130 : decode cX13_bagBest 130 = .ok (.ifCond .eq 8, 3) := by decide +kernel
theorem dX13_bagBest_133 : decode cX13_bagBest 133 = .ok (.bipush (-5), 2) := by decide +kernel
theorem dX13_bagBest_135 : decode cX13_bagBest 135 = .ok (.goto 5, 3) := by decide +kernel
theorem dX13_bagBest_138 : decode cX13_bagBest 138 = .ok (.iload 4, 2) := by decide +kernel
theorem dX13_bagBest_140 : decode cX13_bagBest 140 = .ok (.ireturn, 1) := by decide +kernel
theorem dX13_bagBest_15 : decode cX13_bagBest 15 = .ok (.bipush (-2), 2) := by decide +kernel
theorem dX13_bagBest_17 : decode cX13_bagBest 17 = .ok (.ireturn, 1) := by decide +kernel
theorem dX13_bagBest_18 : decode cX13_bagBest 18 = .ok (.aload_n 0, 1) := by decide +kernel
theorem dX13_bagBest_19 : decode cX13_bagBest 19 = .ok (.aload_n 0, 1) := by decide +kernel
theorem dX13_bagBest_20 : decode cX13_bagBest 20 = .ok (.getfield 205, 3) := by decide +kernel
theorem dX13_bagBest_23 : decode cX13_bagBest 23 = .ok (.iconst 1, 1) := by decide +kernel
theorem dX13_bagBest_24 : decode cX13_bagBest 24 = .ok (.isub, 1) := by decide +kernel
theorem dX13_bagBest_25 : decode cX13_bagBest 25 = .ok (.invokevirtual 274, 3) := by decide +kernel
theorem dX13_bagBest_28 : decode cX13_bagBest 28 = .ok (.iconst (-1), 1) := by decide +kernel
theorem dX13_bagBest_29 : decode cX13_bagBest 29 = .ok (.istore 4, 2) := by decide +kernel
theorem dX13_bagBest_31 : decode cX13_bagBest 31 = .ok (.iconst 0, 1) := by decide +kernel
theorem dX13_bagBest_32 : decode cX13_bagBest 32 = .ok (.istore 5, 2) := by decide +kernel
theorem dX13_bagBest_34 : decode cX13_bagBest 34 = .ok (.iconst 0, 1) := by decide +kernel
theorem dX13_bagBest_35 : decode cX13_bagBest 35 = .ok (.istore 6, 2) := by decide +kernel
theorem dX13_bagBest_37 : decode cX13_bagBest 37 = .ok (.iload 6, 2) := by decide +kernel
theorem dX13_bagBest_39 : decode cX13_bagBest 39 = .ok (.aload_n 0, 1) := by decide +kernel
theorem dX13_bagBest_4 : decode cX13_bagBest 4 = .ok (.ifCond .eq 11, 3) := by decide +kernel
theorem dX13_bagBest_40 : decode cX13_bagBest 40 = .ok (.getfield 44, 3) := by decide +kernel
theorem dX13_bagBest_43 : decode cX13_bagBest 43 = .ok (.iload_n 1, 1) := by decide +kernel
theorem dX13_bagBest_44 : decode cX13_bagBest 44 = .ok (.iaload, 1) := by decide +kernel
theorem dX13_bagBest_45 : decode cX13_bagBest 45 = .ok (.if_icmp .ge 83, 3) := by decide +kernel
theorem dX13_bagBest_48 : decode cX13_bagBest 48 = .ok (.aload_n 0, 1) := by decide +kernel
theorem dX13_bagBest_49 : decode cX13_bagBest 49 = .ok (.getfield 41, 3) := by decide +kernel
theorem dX13_bagBest_52 : decode cX13_bagBest 52 = .ok (.bipush 12, 2) := by decide +kernel
theorem dX13_bagBest_54 : decode cX13_bagBest 54 = .ok (.iload_n 1, 1) := by decide +kernel
theorem dX13_bagBest_55 : decode cX13_bagBest 55 = .ok (.imul, 1) := by decide +kernel
theorem dX13_bagBest_56 : decode cX13_bagBest 56 = .ok (.iload 6, 2) := by decide +kernel
theorem dX13_bagBest_58 : decode cX13_bagBest 58 = .ok (.iadd, 1) := by decide +kernel
theorem dX13_bagBest_59 : decode cX13_bagBest 59 = .ok (.iaload, 1) := by decide +kernel
theorem dX13_bagBest_60 : decode cX13_bagBest 60 = .ok (.istore 7, 2) := by decide +kernel
theorem dX13_bagBest_62 : decode cX13_bagBest 62 = .ok (.aload_n 0, 1) := by decide +kernel
theorem dX13_bagBest_63 : decode cX13_bagBest 63 = .ok (.iload 7, 2) := by decide +kernel
theorem dX13_bagBest_65 : decode cX13_bagBest 65 = .ok (.invokevirtual 233, 3) := by decide +kernel
theorem dX13_bagBest_68 : decode cX13_bagBest 68 = .ok (.ifCond .eq 54, 3) := by decide +kernel
theorem dX13_bagBest_7 : decode cX13_bagBest 7 = .ok (.iload_n 2, 1) := by decide +kernel
theorem dX13_bagBest_71 : decode cX13_bagBest 71 = .ok (.iload 5, 2) := by decide +kernel
theorem dX13_bagBest_73 : decode cX13_bagBest 73 = .ok (.aload_n 0, 1) := by decide +kernel
theorem dX13_bagBest_74 : decode cX13_bagBest 74 = .ok (.iload 7, 2) := by decide +kernel
theorem dX13_bagBest_76 : decode cX13_bagBest 76 = .ok (.iload_n 2, 1) := by decide +kernel
theorem dX13_bagBest_77 : decode cX13_bagBest 77 = .ok (.iload_n 3, 1) := by decide +kernel
theorem dX13_bagBest_78 : decode cX13_bagBest 78 = .ok (.invokevirtual 299, 3) := by decide +kernel
theorem dX13_bagBest_8 : decode cX13_bagBest 8 = .ok (.iload_n 3, 1) := by decide +kernel
theorem dX13_bagBest_81 : decode cX13_bagBest 81 = .ok (.ior, 1) := by decide +kernel
theorem dX13_bagBest_82 : decode cX13_bagBest 82 = .ok (.istore 5, 2) := by decide +kernel
theorem dX13_bagBest_84 : decode cX13_bagBest 84 = .ok (.iload 4, 2) := by decide +kernel
theorem dX13_bagBest_86 : decode cX13_bagBest 86 = .ok (.iconst (-1), 1) := by decide +kernel
theorem dX13_bagBest_87 : decode cX13_bagBest 87 = .ok (.if_icmp .eq 26, 3) := by decide +kernel
theorem dX13_bagBest_9 : decode cX13_bagBest 9 = .ok (.invokestatic 188, 3) := by decide +kernel
theorem dX13_bagBest_90 : decode cX13_bagBest 90 = .ok (.aload_n 0, 1) := by decide +kernel
theorem dX13_bagBest_91 : decode cX13_bagBest 91 = .ok (.iload 7, 2) := by decide +kernel
theorem dX13_bagBest_93 : decode cX13_bagBest 93 = .ok (.aload_n 0, 1) := by decide +kernel
theorem dX13_bagBest_94 : decode cX13_bagBest 94 = .ok (.getfield 41, 3) := by decide +kernel
theorem dX13_bagBest_97 : decode cX13_bagBest 97 = .ok (.bipush 12, 2) := by decide +kernel
theorem dX13_bagBest_99 : decode cX13_bagBest 99 = .ok (.iload_n 1, 1) := by decide +kernel
set_option maxRecDepth 20000 in
theorem ggX13_bagBest_X13_comparedAt : GoodIn wsX13_bagBest wsX13_comparedAt := goodIn_r _ [128, 23, 25, 63, 64, 6, 65, 98, 99, 100, 101, 102, 103, 104, 129, 130, 131, 132, 133, 134, 135, 136, 137, 138, 139, 140, 141, 142, 143, 144, 145, 146, 147, 148, 149, 150, 151, 152, 153, 154, 155, 156, 157, 158, 159, 160, 161, 162, 163, 164, 165, 166, 167, 168, 169, 170, 171, 172, 173] rfl (by decide +kernel)
set_option maxRecDepth 20000 in
theorem ggX13_bagBest_X13_isBag : GoodIn wsX13_bagBest wsX13_isBag := goodIn_r _ [7, 8, 9, 10, 6, 11] rfl (by decide +kernel)
set_option maxRecDepth 20000 in
theorem ggX13_bagBest_X13_isClause : GoodIn wsX13_bagBest wsX13_isClause := goodIn_r _ [120, 1, 9, 10, 6, 11, 129, 130, 131, 132, 133, 134, 135, 136, 137, 138, 139, 140, 141, 142, 143, 144, 145, 146, 147, 148, 149, 150, 151, 152, 153, 154, 155, 156, 157, 158, 159, 160, 161, 162, 163, 164, 165, 166, 167, 168, 169, 170, 171, 172, 173] rfl (by decide +kernel)
set_option maxRecDepth 20000 in
theorem ggX13_bagBest_X13_isMuchAt : GoodIn wsX13_bagBest wsX13_isMuchAt := goodIn_r _ [124, 22, 63, 64, 6, 65, 129, 130, 131, 132, 133, 134, 135, 136, 137, 138, 139, 140, 141, 142, 143, 144, 145, 146, 147, 148, 149, 150, 151, 152, 153, 154, 155, 156, 157, 158, 159, 160, 161, 162, 163, 164, 165, 166, 167, 168, 169, 170, 171, 172, 173] rfl (by decide +kernel)
set_option maxRecDepth 20000 in
theorem ggX13_bagBest_X13_isSpot : GoodIn wsX13_bagBest wsX13_isSpot := goodIn_r _ [14, 15, 9, 10, 6, 11] rfl (by decide +kernel)
set_option maxRecDepth 40000 in
theorem ggX13_bagBest_X13_laysWorths_0 : GoodIn wsX13_bagBest [.code yX13_laysWorths cX13_laysWorths 6 none] := goodIn_r _ [19] rfl (by decide +kernel)
set_option maxRecDepth 40000 in
theorem ggX13_bagBest_X13_laysWorths_1 : GoodIn wsX13_bagBest wsX13_laysWorths_r1 := goodIn_r _ [20, 21, 22, 23, 24, 25, 26, 27, 28, 29, 6, 30, 1, 31, 32, 33, 34, 35, 36, 37, 38, 39, 40, 41] rfl (by decide +kernel)
set_option maxRecDepth 40000 in
theorem ggX13_bagBest_X13_laysWorths_2 : GoodIn wsX13_bagBest wsX13_laysWorths_r2 := goodIn_r _ [42, 43, 44, 45, 46, 47, 48, 49, 50, 51, 52, 53, 54, 55, 56, 57, 58, 59, 60, 61, 62, 63, 64, 65] rfl (by decide +kernel)
set_option maxRecDepth 40000 in
theorem ggX13_bagBest_X13_laysWorths_3 : GoodIn wsX13_bagBest wsX13_laysWorths_r3 := goodIn_r _ [66, 67, 68, 69, 70, 71, 72, 73, 74, 75, 76, 77, 78, 79, 80, 81, 82, 83, 84, 85, 86, 87, 88, 89] rfl (by decide +kernel)
set_option maxRecDepth 40000 in
theorem ggX13_bagBest_X13_laysWorths_4 : GoodIn wsX13_bagBest wsX13_laysWorths_r4 := goodIn_r _ [90, 91, 92, 93, 94, 95, 96, 97, 98, 99, 100, 101, 102, 103, 104, 105, 106, 107, 108, 109, 110, 111, 112, 113] rfl (by decide +kernel)
set_option maxRecDepth 40000 in
theorem ggX13_bagBest_X13_laysWorths_5 : GoodIn wsX13_bagBest wsX13_laysWorths_r5 := goodIn_r _ [114, 115, 116] rfl (by decide +kernel)
set_option maxRecDepth 40000 in
theorem ggX13_bagBest_X13_laysWorths_6 : GoodIn wsX13_bagBest wsX130 := goodIn_r _ [129, 130, 131, 132, 133, 134, 135, 136, 137, 138, 139, 140, 141, 142, 143, 144, 145, 146, 147, 148, 149, 150, 151, 152, 153, 154, 155, 156, 157, 158, 159, 160, 161, 162, 163, 164, 165, 166, 167, 168, 169, 170, 171, 172, 173] rfl (by decide +kernel)
set_option maxRecDepth 40000 in
theorem ggX13_bagBest_X13_laysWorths : GoodIn wsX13_bagBest wsX13_laysWorths := (goodIn_app ggX13_bagBest_X13_laysWorths_0 (goodIn_app (goodIn_app ggX13_bagBest_X13_laysWorths_1 (goodIn_app ggX13_bagBest_X13_laysWorths_2 (goodIn_app ggX13_bagBest_X13_laysWorths_3 (goodIn_app ggX13_bagBest_X13_laysWorths_4 ggX13_bagBest_X13_laysWorths_5)))) ggX13_bagBest_X13_laysWorths_6))
set_option maxRecDepth 20000 in
theorem gX13_bagBest_X13_comparedAt : GoodIn wsX13_bagBest (wsV RX13 303 RX13 yX13_comparedAt wsX13_comparedAt) := goodIn_app (goodIn_r _ [125, 126, 127, 6] rfl (by decide +kernel)) ggX13_bagBest_X13_comparedAt
set_option maxRecDepth 20000 in
theorem gX13_bagBest_X13_isBag : GoodIn wsX13_bagBest (va_wsS RX13 405 yX13_isBag wsX13_isBag) := goodIn_app (goodIn_of _ (by decide +kernel)) ggX13_bagBest_X13_isBag
set_option maxRecDepth 20000 in
theorem gX13_bagBest_X13_isClause : GoodIn wsX13_bagBest (wsV RX13 233 RX13 yX13_isClause wsX13_isClause) := goodIn_app (goodIn_r _ [117, 118, 119, 6] rfl (by decide +kernel)) ggX13_bagBest_X13_isClause
set_option maxRecDepth 20000 in
theorem gX13_bagBest_X13_isMuchAt : GoodIn wsX13_bagBest (wsV RX13 299 RX13 yX13_isMuchAt wsX13_isMuchAt) := goodIn_app (goodIn_r _ [121, 122, 123, 6] rfl (by decide +kernel)) ggX13_bagBest_X13_isMuchAt
set_option maxRecDepth 20000 in
theorem gX13_bagBest_X13_isSpot : GoodIn wsX13_bagBest (va_wsS RX13 188 yX13_isSpot wsX13_isSpot) := goodIn_app (goodIn_of _ (by decide +kernel)) ggX13_bagBest_X13_isSpot
set_option maxRecDepth 20000 in
theorem gX13_bagBest_X13_laysWorths : GoodIn wsX13_bagBest (wsV RX13 274 RX13 yX13_laysWorths wsX13_laysWorths) := goodIn_app (goodIn_r _ [16, 17, 18, 6] rfl (by decide +kernel)) ggX13_bagBest_X13_laysWorths
set_option maxRecDepth 20000 in
theorem in_X13_bagBest_X13 : ∀ w ∈ wsX130, w ∈ wsX13_bagBest := sub_r [129, 130, 131, 132, 133, 134, 135, 136, 137, 138, 139, 140, 141, 142, 143, 144, 145, 146, 147, 148, 149, 150, 151, 152, 153, 154, 155, 156, 157, 158, 159, 160, 161, 162, 163, 164, 165, 166, 167, 168, 169, 170, 171, 172, 173] rfl
set_option maxHeartbeats 4000000 in
set_option maxRecDepth 100000 in
theorem c_X13_bagBest (l : Launch) (D : va_G) (T : Nat → ClassId) (sz : Nat) (h0 : Nat) (q : Nat → Int32) (v : Int64) (w : Int64) (a : Nat → Nat) (f8 : Nat → Int32) (f9 : Nat → Int32) (f10 : Nat → Int32) (f11 : Nat → Int32) (f17 : Nat → Int32) (f18 : Nat → Int32) (f19 : Nat → Int32) (f20 : Nat → Int64) (f21 : Nat → Int64) (f22 : Nat → Int32) (f12 : Nat → Int32) (f13 : Nat → Int32) (x1 : Int32) (x2 : Int32) (x3 : Int32) (hB : isB (q 14)) (hm : 0 ≤ (q 7).toInt ∧ (q 7).toInt ≤ 24) (hokR : okR f8 f10 f11) (hZ : ∀ j : Nat, isB (f22 j)) (hL : (1 ≤ (q 4).toInt ∧ (q 4).toInt ≤ 9) ∧ 1 ≤ (q 6).toInt ∧ (q 6).toInt ≤ 9) (hbg : ∀ k : Nat, k < 3 → 0 ≤ (f13 k).toInt ∧ (f13 k).toInt ≤ 12) : Met l yX13_bagBest wsX13_bagBest ({ frames := 134, cells := 0, slots := 0, locals := 5283 }) (pW [.ref h0, .int x1, .int x2, .int x3] D T [(h0, .inr (10, (Value.int (q 0) :: Value.int (q 1) :: Value.int (q 2) :: Value.int (q 3) :: Value.int (q 4) :: Value.int (q 5) :: Value.int (q 6) :: Value.int (q 7) :: Value.ref (a 8) :: Value.ref (a 9) :: Value.ref (a 10) :: Value.ref (a 11) :: Value.ref (a 12) :: Value.ref (a 13) :: Value.int (q 14) :: Value.long v :: Value.long w :: Value.ref (a 17) :: Value.ref (a 18) :: Value.ref (a 19) :: Value.ref (a 20) :: Value.ref (a 21) :: Value.ref (a 22) :: Value.ref (a 23) :: Value.int (q 24) :: Value.ref (a 25) :: Value.int (q 26) :: Value.ref (a 27) :: Value.int (q 28) :: Value.int (q 29) :: Value.int (q 30) :: Value.int (q 31) :: Value.int (q 32) :: Value.int (q 33) :: Value.ref (a 34) :: Value.ref (a 35) :: Value.ref (a 36) :: Value.ref (a 37) :: Value.ref (a 38) :: Value.ref (a 39) :: Value.ref (a 40) :: Value.int (q 41) :: Value.ref (a 42) :: Value.int (q 43) :: Value.int (q 44) :: []))), ((a 8), .inl (T 0, 24, .inl f8)), ((a 9), .inl (T 0, 24, .inl f9)), ((a 10), .inl (T 0, 24, .inl f10)), ((a 11), .inl (T 0, 24, .inl f11)), ((a 17), .inl (T 0, 24, .inl f17)), ((a 18), .inl (T 0, 24, .inl f18)), ((a 19), .inl (T 0, 24, .inl f19)), ((a 20), .inl (T 1, 672, .inr (.inl f20))), ((a 21), .inl (T 1, 672, .inr (.inl f21))), ((a 22), .inl (T 4, 672, .inl f22)), ((a 12), .inl (T 0, 36, .inl f12)), ((a 13), .inl (T 0, 3, .inl f13))] sz) (va_Qi (fun (r : Int32) (u : (Int32) × (Int64) × (Int64) × (Nat → Int32) × (Nat → Int32) × (Nat → Int32) × (Nat → Int64) × (Nat → Int64) × (Nat → Int32)) => (isB u.1) ∧ (∀ j : Nat, isB (u.2.2.2.2.2.2.2.2 j)) ∧ ((0 ≤ x1.toInt ∧ x1.toInt ≤ 2) ∧ spK x2 x3 → ∀ j : Nat, (j : Int) < (q 7).toInt → mesP f8 f9 f10 f11 u.2.2.2.1 u.2.2.2.2.1 u.2.2.2.2.2.1 j) ∧ (bbQ (VALW (lqW (q 0) (q 1) (q 2) (q 3) (q 4) (q 5) (q 6)) f8 f9 f10 f11 u.2.2.2.1) (q 7) (f13 (x1.toNatClampNeg)) (gbB f12 x1) (0 ≤ x1.toInt ∧ x1.toInt ≤ 2) x2 x3 r)) (bW D (va_A [(h0, .inr (10, (Value.int (q 0) :: Value.int (q 1) :: Value.int (q 2) :: Value.int (q 3) :: Value.int (q 4) :: Value.int (q 5) :: Value.int (q 6) :: Value.int (q 7) :: Value.ref (a 8) :: Value.ref (a 9) :: Value.ref (a 10) :: Value.ref (a 11) :: Value.ref (a 12) :: Value.ref (a 13) :: Value.int (q 14) :: Value.long v :: Value.long w :: Value.ref (a 17) :: Value.ref (a 18) :: Value.ref (a 19) :: Value.ref (a 20) :: Value.ref (a 21) :: Value.ref (a 22) :: Value.ref (a 23) :: Value.int (q 24) :: Value.ref (a 25) :: Value.int (q 26) :: Value.ref (a 27) :: Value.int (q 28) :: Value.int (q 29) :: Value.int (q 30) :: Value.int (q 31) :: Value.int (q 32) :: Value.int (q 33) :: Value.ref (a 34) :: Value.ref (a 35) :: Value.ref (a 36) :: Value.ref (a 37) :: Value.ref (a 38) :: Value.ref (a 39) :: Value.ref (a 40) :: Value.int (q 41) :: Value.ref (a 42) :: Value.int (q 43) :: Value.int (q 44) :: []))), ((a 8), .inl (T 0, 24, .inl f8)), ((a 9), .inl (T 0, 24, .inl f9)), ((a 10), .inl (T 0, 24, .inl f10)), ((a 11), .inl (T 0, 24, .inl f11)), ((a 17), .inl (T 0, 24, .inl f17)), ((a 18), .inl (T 0, 24, .inl f18)), ((a 19), .inl (T 0, 24, .inl f19)), ((a 20), .inl (T 1, 672, .inr (.inl f20))), ((a 21), .inl (T 1, 672, .inr (.inl f21))), ((a 22), .inl (T 4, 672, .inl f22)), ((a 12), .inl (T 0, 36, .inl f12)), ((a 13), .inl (T 0, 3, .inl f13))] sz) (fun (u : (Int32) × (Int64) × (Int64) × (Nat → Int32) × (Nat → Int32) × (Nat → Int32) × (Nat → Int64) × (Nat → Int64) × (Nat → Int32)) => [(h0, .inr (10, (Value.int (q 0) :: Value.int (q 1) :: Value.int (q 2) :: Value.int (q 3) :: Value.int (q 4) :: Value.int (q 5) :: Value.int (q 6) :: Value.int (q 7) :: Value.ref (a 8) :: Value.ref (a 9) :: Value.ref (a 10) :: Value.ref (a 11) :: Value.ref (a 12) :: Value.ref (a 13) :: Value.int u.1 :: Value.long u.2.1 :: Value.long u.2.2.1 :: Value.ref (a 17) :: Value.ref (a 18) :: Value.ref (a 19) :: Value.ref (a 20) :: Value.ref (a 21) :: Value.ref (a 22) :: Value.ref (a 23) :: Value.int (q 24) :: Value.ref (a 25) :: Value.int (q 26) :: Value.ref (a 27) :: Value.int (q 28) :: Value.int (q 29) :: Value.int (q 30) :: Value.int (q 31) :: Value.int (q 32) :: Value.int (q 33) :: Value.ref (a 34) :: Value.ref (a 35) :: Value.ref (a 36) :: Value.ref (a 37) :: Value.ref (a 38) :: Value.ref (a 39) :: Value.ref (a 40) :: Value.int (q 41) :: Value.ref (a 42) :: Value.int (q 43) :: Value.int (q 44) :: []))), ((a 8), .inl (T 0, 24, .inl f8)), ((a 9), .inl (T 0, 24, .inl f9)), ((a 10), .inl (T 0, 24, .inl f10)), ((a 11), .inl (T 0, 24, .inl f11)), ((a 17), .inl (T 0, 24, .inl u.2.2.2.1)), ((a 18), .inl (T 0, 24, .inl u.2.2.2.2.1)), ((a 19), .inl (T 0, 24, .inl u.2.2.2.2.2.1)), ((a 20), .inl (T 1, 672, .inr (.inl u.2.2.2.2.2.2.1))), ((a 21), .inl (T 1, 672, .inr (.inl u.2.2.2.2.2.2.2.1))), ((a 22), .inl (T 4, 672, .inl u.2.2.2.2.2.2.2.2)), ((a 12), .inl (T 0, 36, .inl f12)), ((a 13), .inl (T 0, 3, .inl f13))])) (va_A [(h0, .inr (10, (Value.int (q 0) :: Value.int (q 1) :: Value.int (q 2) :: Value.int (q 3) :: Value.int (q 4) :: Value.int (q 5) :: Value.int (q 6) :: Value.int (q 7) :: Value.ref (a 8) :: Value.ref (a 9) :: Value.ref (a 10) :: Value.ref (a 11) :: Value.ref (a 12) :: Value.ref (a 13) :: Value.int (q 14) :: Value.long v :: Value.long w :: Value.ref (a 17) :: Value.ref (a 18) :: Value.ref (a 19) :: Value.ref (a 20) :: Value.ref (a 21) :: Value.ref (a 22) :: Value.ref (a 23) :: Value.int (q 24) :: Value.ref (a 25) :: Value.int (q 26) :: Value.ref (a 27) :: Value.int (q 28) :: Value.int (q 29) :: Value.int (q 30) :: Value.int (q 31) :: Value.int (q 32) :: Value.int (q 33) :: Value.ref (a 34) :: Value.ref (a 35) :: Value.ref (a 36) :: Value.ref (a 37) :: Value.ref (a 38) :: Value.ref (a 39) :: Value.ref (a 40) :: Value.int (q 41) :: Value.ref (a 42) :: Value.int (q 43) :: Value.int (q 44) :: []))), ((a 8), .inl (T 0, 24, .inl f8)), ((a 9), .inl (T 0, 24, .inl f9)), ((a 10), .inl (T 0, 24, .inl f10)), ((a 11), .inl (T 0, 24, .inl f11)), ((a 17), .inl (T 0, 24, .inl f17)), ((a 18), .inl (T 0, 24, .inl f18)), ((a 19), .inl (T 0, 24, .inl f19)), ((a 20), .inl (T 1, 672, .inr (.inl f20))), ((a 21), .inl (T 1, 672, .inr (.inl f21))), ((a 22), .inl (T 4, 672, .inl f22)), ((a 12), .inl (T 0, 36, .inl f12)), ((a 13), .inl (T 0, 3, .inl f13))] sz)) 0 0 (va_A [(h0, .inr (10, (Value.int (q 0) :: Value.int (q 1) :: Value.int (q 2) :: Value.int (q 3) :: Value.int (q 4) :: Value.int (q 5) :: Value.int (q 6) :: Value.int (q 7) :: Value.ref (a 8) :: Value.ref (a 9) :: Value.ref (a 10) :: Value.ref (a 11) :: Value.ref (a 12) :: Value.ref (a 13) :: Value.int (q 14) :: Value.long v :: Value.long w :: Value.ref (a 17) :: Value.ref (a 18) :: Value.ref (a 19) :: Value.ref (a 20) :: Value.ref (a 21) :: Value.ref (a 22) :: Value.ref (a 23) :: Value.int (q 24) :: Value.ref (a 25) :: Value.int (q 26) :: Value.ref (a 27) :: Value.int (q 28) :: Value.int (q 29) :: Value.int (q 30) :: Value.int (q 31) :: Value.int (q 32) :: Value.int (q 33) :: Value.ref (a 34) :: Value.ref (a 35) :: Value.ref (a 36) :: Value.ref (a 37) :: Value.ref (a 38) :: Value.ref (a 39) :: Value.ref (a 40) :: Value.int (q 41) :: Value.ref (a 42) :: Value.int (q 43) :: Value.int (q 44) :: []))), ((a 8), .inl (T 0, 24, .inl f8)), ((a 9), .inl (T 0, 24, .inl f9)), ((a 10), .inl (T 0, 24, .inl f10)), ((a 11), .inl (T 0, 24, .inl f11)), ((a 17), .inl (T 0, 24, .inl f17)), ((a 18), .inl (T 0, 24, .inl f18)), ((a 19), .inl (T 0, 24, .inl f19)), ((a 20), .inl (T 1, 672, .inr (.inl f20))), ((a 21), .inl (T 1, 672, .inr (.inl f21))), ((a 22), .inl (T 4, 672, .inl f22)), ((a 12), .inl (T 0, 36, .inl f12)), ((a 13), .inl (T 0, 3, .inl f13))] sz) := by
  refine Met.ofW (cc := cX13_bagBest) (maxL := 8) (ret := (some .int)) (by decide +kernel) rfl ?_
  intro p e s m args below meth c s₁ B hml hv
  obtain ⟨rfl, hsz, hP, hE, hD0⟩ := hv
  have hx := B.exec
  have hb := B.bytes
  have hr := B.returns
  have hts := atoms_spec (ws := wsX13_bagBest) B.pre
  have hown : s.vm.findClass RX13 = some m.cls := findClass_of_methodNamed B.named
  have hlocks := B.notSynchronized
  subst hsz
  have hD := hD0.self (sz := s.heap.size)
  generalize hAe : va_A [(h0, .inr (10, (Value.int (q 0) :: Value.int (q 1) :: Value.int (q 2) :: Value.int (q 3) :: Value.int (q 4) :: Value.int (q 5) :: Value.int (q 6) :: Value.int (q 7) :: Value.ref (a 8) :: Value.ref (a 9) :: Value.ref (a 10) :: Value.ref (a 11) :: Value.ref (a 12) :: Value.ref (a 13) :: Value.int (q 14) :: Value.long v :: Value.long w :: Value.ref (a 17) :: Value.ref (a 18) :: Value.ref (a 19) :: Value.ref (a 20) :: Value.ref (a 21) :: Value.ref (a 22) :: Value.ref (a 23) :: Value.int (q 24) :: Value.ref (a 25) :: Value.int (q 26) :: Value.ref (a 27) :: Value.int (q 28) :: Value.int (q 29) :: Value.int (q 30) :: Value.int (q 31) :: Value.int (q 32) :: Value.int (q 33) :: Value.ref (a 34) :: Value.ref (a 35) :: Value.ref (a 36) :: Value.ref (a 37) :: Value.ref (a 38) :: Value.ref (a 39) :: Value.ref (a 40) :: Value.int (q 41) :: Value.ref (a 42) :: Value.int (q 43) :: Value.int (q 44) :: []))), ((a 8), .inl (T 0, 24, .inl f8)), ((a 9), .inl (T 0, 24, .inl f9)), ((a 10), .inl (T 0, 24, .inl f10)), ((a 11), .inl (T 0, 24, .inl f11)), ((a 17), .inl (T 0, 24, .inl f17)), ((a 18), .inl (T 0, 24, .inl f18)), ((a 19), .inl (T 0, 24, .inl f19)), ((a 20), .inl (T 1, 672, .inr (.inl f20))), ((a 21), .inl (T 1, 672, .inr (.inl f21))), ((a 22), .inl (T 4, 672, .inl f22)), ((a 12), .inl (T 0, 36, .inl f12)), ((a 13), .inl (T 0, 3, .inl f13))] s.heap.size = A at hD ⊢
  have hA : ∀ q : Nat, s.heap.size ≤ q → A q := fun q h => by rw [← hAe]; exact Or.inr h
  have hS : va_S A s.heap s.heap [] := va_S.rf
  have hP : va_P D vwCl [(h0, .inr (10, (Value.int (q 0) :: Value.int (q 1) :: Value.int (q 2) :: Value.int (q 3) :: Value.int (q 4) :: Value.int (q 5) :: Value.int (q 6) :: Value.int (q 7) :: Value.ref (a 8) :: Value.ref (a 9) :: Value.ref (a 10) :: Value.ref (a 11) :: Value.ref (a 12) :: Value.ref (a 13) :: Value.int (q 14) :: Value.long v :: Value.long w :: Value.ref (a 17) :: Value.ref (a 18) :: Value.ref (a 19) :: Value.ref (a 20) :: Value.ref (a 21) :: Value.ref (a 22) :: Value.ref (a 23) :: Value.int (q 24) :: Value.ref (a 25) :: Value.int (q 26) :: Value.ref (a 27) :: Value.int (q 28) :: Value.int (q 29) :: Value.int (q 30) :: Value.int (q 31) :: Value.int (q 32) :: Value.int (q 33) :: Value.ref (a 34) :: Value.ref (a 35) :: Value.ref (a 36) :: Value.ref (a 37) :: Value.ref (a 38) :: Value.ref (a 39) :: Value.ref (a 40) :: Value.int (q 41) :: Value.ref (a 42) :: Value.int (q 43) :: Value.int (q 44) :: []))), ((a 8), .inl (T 0, 24, .inl f8)), ((a 9), .inl (T 0, 24, .inl f9)), ((a 10), .inl (T 0, 24, .inl f10)), ((a 11), .inl (T 0, 24, .inl f11)), ((a 17), .inl (T 0, 24, .inl f17)), ((a 18), .inl (T 0, 24, .inl f18)), ((a 19), .inl (T 0, 24, .inl f19)), ((a 20), .inl (T 1, 672, .inr (.inl f20))), ((a 21), .inl (T 1, 672, .inr (.inl f21))), ((a 22), .inl (T 4, 672, .inl f22)), ((a 12), .inl (T 0, 36, .inl f12)), ((a 13), .inl (T 0, 3, .inl f13))] s.heap := hP
  have hl := lv_entry ([.ref h0, .int x1, .int x2, .int x3]) (n := 8) (Nat.le_of_ble_eq_true rfl)
  rw [lg_entry_eq]
  generalize (lg_sl ([.ref h0, .int x1, .int x2, .int x3]) ++ List.replicate (8 - (lg_sl ([.ref h0, .int x1, .int x2, .int x3])).length) Slot.unset).toArray = ls at hl ⊢
  have hl : lv_has ls 8 [(0, .ref h0), (1, .int x1), (2, .int x2), (3, .int x3)] := hl
  clear hD0
  refine lv_iload_n hx hb dX13_bagBest_0 rfl (lv_at hl 1 rfl) ?_
  refine vp_callSi (W.runS (As := [.int x1]) (rest := []) ⟨hx, hb, hml, hown, hts⟩ (c_X13_isBag l D T x1) (va_cwS 1 hts gX13_bagBest_X13_isBag rfl rfl rfl hs_X13_isBag ⟨Nat.le_of_ble_eq_true rfl, Nat.le_of_ble_eq_true rfl⟩) (pR_S hP hE [] rfl) rfl rfl hl.1 rfl (lv_room (Nat.le_of_ble_eq_true rfl)) dX13_bagBest_1 ⟨Nat.le_of_ble_eq_true rfl, Nat.le_of_ble_eq_true rfl⟩) (fun r_1 hr_1 => ?_)
  rcases bool_post hr_1 with ⟨c_2, rfl⟩ | ⟨c_2, rfl⟩
  · refine lv_if_eq (tgt := 15) hx hb dX13_bagBest_4 (by decide +kernel) (fun c9 => absurd c9 (by decide +kernel)) (fun _ => ?_)
    refine lv_iload_n hx hb dX13_bagBest_7 rfl (lv_at hl 2 rfl) ?_
    refine lv_iload_n hx hb dX13_bagBest_8 rfl (lv_at hl 3 rfl) ?_
    refine vp_callSi (W.runS (As := [.int x2, .int x3]) (rest := []) ⟨hx, hb, hml, hown, hts⟩ (c_X13_isSpot l D T x2 x3) (va_cwS 2 hts gX13_bagBest_X13_isSpot rfl rfl rfl hs_X13_isSpot ⟨Nat.le_of_ble_eq_true rfl, Nat.le_of_ble_eq_true rfl⟩) (pR_S hP hE [] rfl) rfl rfl hl.1 rfl (lv_room (Nat.le_of_ble_eq_true rfl)) dX13_bagBest_9 ⟨Nat.le_of_ble_eq_true rfl, Nat.le_of_ble_eq_true rfl⟩) (fun r_3 hr_3 => ?_)
    rcases bool_post hr_3 with ⟨c_4, rfl⟩ | ⟨c_4, rfl⟩
    · refine lv_if_ne (tgt := 18) hx hb dX13_bagBest_12 (by decide +kernel) (fun _ => ?_) (fun c9 => absurd c9 (by decide +kernel))
      refine lv_aload_n hx hb dX13_bagBest_18 rfl (lv_at hl 0 rfl) ?_
      refine lv_aload_n hx hb dX13_bagBest_19 rfl (lv_at hl 0 rfl) ?_
      refine va_get (D := D) (ci := 10) (v := .int (q 7)) (C := RX13) (T := TX13) (N := 45) hx hb hts in_X13_bagBest_X13 hown hE.1 hP 0 rfl rfl 7 (by decide +kernel) (hts (.fieldLink RX13 205 "ClauseBookModel" "many" "I") (List.mem_of_getElem? (i := 1) rfl)) (fun _ h9 => h9) rfl dX13_bagBest_20 ?_
      refine lv_iconst (v := 1) hx hb dX13_bagBest_23 (by decide +kernel) ?_
      refine lv_isub hx hb dX13_bagBest_24 ?_
      have hd9 := dec1 (i := (q 7)) (by omega)
      have hb13 : 0 ≤ (f13 (x1.toNatClampNeg)).toInt ∧ (f13 (x1.toNatClampNeg)).toInt ≤ 12 := hbg _ (by have h9 := tn (x := x1) (by omega); omega)
      have hFc := va_free (wc := [(h0, .inr (10, (Value.int (q 0) :: Value.int (q 1) :: Value.int (q 2) :: Value.int (q 3) :: Value.int (q 4) :: Value.int (q 5) :: Value.int (q 6) :: Value.int (q 7) :: Value.ref (a 8) :: Value.ref (a 9) :: Value.ref (a 10) :: Value.ref (a 11) :: Value.ref (a 12) :: Value.ref (a 13) :: Value.int (q 14) :: Value.long v :: Value.long w :: Value.ref (a 17) :: Value.ref (a 18) :: Value.ref (a 19) :: Value.ref (a 20) :: Value.ref (a 21) :: Value.ref (a 22) :: Value.ref (a 23) :: Value.int (q 24) :: Value.ref (a 25) :: Value.int (q 26) :: Value.ref (a 27) :: Value.int (q 28) :: Value.int (q 29) :: Value.int (q 30) :: Value.int (q 31) :: Value.int (q 32) :: Value.int (q 33) :: Value.ref (a 34) :: Value.ref (a 35) :: Value.ref (a 36) :: Value.ref (a 37) :: Value.ref (a 38) :: Value.ref (a 39) :: Value.ref (a 40) :: Value.int (q 41) :: Value.ref (a 42) :: Value.int (q 43) :: Value.int (q 44) :: []))), ((a 8), .inl (T 0, 24, .inl f8)), ((a 9), .inl (T 0, 24, .inl f9)), ((a 10), .inl (T 0, 24, .inl f10)), ((a 11), .inl (T 0, 24, .inl f11)), ((a 17), .inl (T 0, 24, .inl f17)), ((a 18), .inl (T 0, 24, .inl f18)), ((a 19), .inl (T 0, 24, .inl f19)), ((a 20), .inl (T 1, 672, .inr (.inl f20))), ((a 21), .inl (T 1, 672, .inr (.inl f21))), ((a 22), .inl (T 4, 672, .inl f22))]) hD hS hA [0, 1, 2, 3, 4, 5, 6, 7, 8, 9, 10] rfl
      refine va_callv (va_runV (As := [.int ((q 7) - 1)]) (rest := []) ⟨hx, hb, hml, hown, hts⟩ (c_X13_laysWorths l D T _ h0 q v w a f8 f9 f10 f11 f17 f18 f19 f20 f21 f22 ((q 7) - 1) (show 0 ≤ (q 7).toInt ∧ (q 7).toInt ≤ 24 from (by omega)) (show okR f8 f10 f11 from hokR) (show ∀ j : Nat, isB (f22 j) from hZ) (show (1 ≤ (q 4).toInt ∧ (q 4).toInt ≤ 9) ∧ 1 ≤ (q 6).toInt ∧ (q 6).toInt ≤ 9 from (by omega)) (show -1 ≤ ((q 7) - 1).toInt ∧ ((q 7) - 1).toInt < (q 7).toInt from (by omega))) (cwV 1 hts gX13_bagBest_X13_laysWorths rfl rfl rfl hv_X13_laysWorths ⟨Nat.le_of_ble_eq_true rfl, Nat.le_of_ble_eq_true rfl⟩) (pW_V (q := (RX13, TX13, 45)) (ci := 10) (q0 := 0) hP hE hD rfl rfl [0, 1, 2, 3, 4, 5, 6, 7, 8, 9, 10] (by decide +kernel) rfl rfl) rfl rfl hl.1 rfl (lv_room (Nat.le_of_ble_eq_true rfl)) dX13_bagBest_25 ⟨Nat.le_of_ble_eq_true rfl, Nat.le_of_ble_eq_true rfl⟩) hS (fun q _ h => hFc q h) hFc (fun u_6 t H1 locs ht hvm hr_5 hB hz1 hk1 hS => ?_)
      obtain ⟨l_7, l_8, f_9, f_10, f_11, f_12, f_13, f_14⟩ := u_6
      obtain ⟨hi0_r_5, hi1_r_5, hi2_r_5, hi3_r_5, hi4_r_5⟩ := hr_5
      have hZ : ∀ j : Nat, isB (f_14 j) := hi0_r_5
      have hEE : okE f8 f10 f_9 (q 7).toInt := hi1_r_5
      have hW1 : ∀ j : Nat, (j : Int) < 28 * (((q 7) - 1).toInt + 1) → 1 ≤ (f_13 j).toInt := hi2_r_5
      have hTV : ∀ y t s : Int32, spK t s → 0 ≤ y.toInt → y.toInt ≤ ((q 7) - 1).toInt → tabW f_12 f_13 f_14 y t s = VALW (lqW (q 0) (q 1) (q 2) (q 3) (q 4) (q 5) (q 6)) f8 f9 f10 f11 f_9 y t s := hi3_r_5
      have hMEr : ∀ j : Nat, (j : Int) < (q 7).toInt → mesP f8 f9 f10 f11 f_9 f_10 f_11 j := hi4_r_5
      obtain ⟨hP1, hD1⟩ := hB
      rw [ht] at hP1
      obtain ⟨hP, hD⟩ := va_repl [(h0, .inr (10, (Value.int (q 0) :: Value.int (q 1) :: Value.int (q 2) :: Value.int (q 3) :: Value.int (q 4) :: Value.int (q 5) :: Value.int (q 6) :: Value.int (q 7) :: Value.ref (a 8) :: Value.ref (a 9) :: Value.ref (a 10) :: Value.ref (a 11) :: Value.ref (a 12) :: Value.ref (a 13) :: Value.int 0 :: Value.long l_7 :: Value.long l_8 :: Value.ref (a 17) :: Value.ref (a 18) :: Value.ref (a 19) :: Value.ref (a 20) :: Value.ref (a 21) :: Value.ref (a 22) :: Value.ref (a 23) :: Value.int (q 24) :: Value.ref (a 25) :: Value.int (q 26) :: Value.ref (a 27) :: Value.int (q 28) :: Value.int (q 29) :: Value.int (q 30) :: Value.int (q 31) :: Value.int (q 32) :: Value.int (q 33) :: Value.ref (a 34) :: Value.ref (a 35) :: Value.ref (a 36) :: Value.ref (a 37) :: Value.ref (a 38) :: Value.ref (a 39) :: Value.ref (a 40) :: Value.int (q 41) :: Value.ref (a 42) :: Value.int (q 43) :: Value.int (q 44) :: []))), ((a 8), .inl (T 0, 24, .inl f8)), ((a 9), .inl (T 0, 24, .inl f9)), ((a 10), .inl (T 0, 24, .inl f10)), ((a 11), .inl (T 0, 24, .inl f11)), ((a 17), .inl (T 0, 24, .inl f_9)), ((a 18), .inl (T 0, 24, .inl f_10)), ((a 19), .inl (T 0, 24, .inl f_11)), ((a 20), .inl (T 1, 672, .inr (.inl f_12))), ((a 21), .inl (T 1, 672, .inr (.inl f_13))), ((a 22), .inl (T 4, 672, .inl f_14)), ((a 12), .inl (T 0, 36, .inl f12)), ((a 13), .inl (T 0, 3, .inl f13))] hP hD [0, 1, 2, 3, 4, 5, 6, 7, 8, 9, 10] [0, 1, 2, 3, 4, 5, 6, 7, 8, 9, 10] rfl (by decide +kernel) rfl rfl rfl hk1 hP1
      clear hP1 hD1 hFc
      generalize H1 = H at hP hS ⊢
      refine lv_iconst (v := (-1)) hx hb dX13_bagBest_28 (by decide +kernel) ?_
      refine lv_istore (lv' := [(4, .int (-1)), (0, .ref h0), (1, .int x1), (2, .int x2), (3, .int x3)]) hx hb dX13_bagBest_29 hl (by decide +kernel) rfl (fun ls hl => ?_)
      refine lv_iconst (v := 0) hx hb dX13_bagBest_31 (by decide +kernel) ?_
      refine lv_istore (lv' := [(5, .int 0), (4, .int (-1)), (0, .ref h0), (1, .int x1), (2, .int x2), (3, .int x3)]) hx hb dX13_bagBest_32 hl (by decide +kernel) rfl (fun ls hl => ?_)
      refine lv_iconst (v := 0) hx hb dX13_bagBest_34 (by decide +kernel) ?_
      refine lv_istore (lv' := [(6, .int 0), (5, .int 0), (4, .int (-1)), (0, .ref h0), (1, .int x1), (2, .int x2), (3, .int x3)]) hx hb dX13_bagBest_35 hl (by decide +kernel) rfl (fun ls hl => ?_)
      refine loopR (σ := (Int32) × (Int32) × (Int32)) (fun x9 ls => lv_has ls 8 [(6, .int x9.1), (5, .int x9.2.1), (4, .int x9.2.2), (0, .ref h0), (1, .int x1), (2, .int x2), (3, .int x3)] ∧ ((0 ≤ x9.1.toInt ∧ x9.1.toInt ≤ 12 ∧ x9.1.toInt ≤ (f13 (x1.toNatClampNeg)).toInt) ∧ isB x9.2.1 ∧ (x9.2.2.toInt = -1 ∨ ((0 ≤ x9.2.2.toInt ∧ x9.2.2.toInt < 12) ∧ 0 ≤ (f12 ((12 * x1) + x9.2.2).toNatClampNeg).toInt ∧ (f12 ((12 * x1) + x9.2.2).toNatClampNeg).toInt < (q 7).toInt)) ∧ bbJ (VALW (lqW (q 0) (q 1) (q 2) (q 3) (q 4) (q 5) (q 6)) f8 f9 f10 f11 f_9) (q 7) (gbB f12 x1) x2 x3 x9.1 x9.2.2 x9.2.1)) (fun x9 => (12 - x9.1.toInt).toNat) (fun x9 ls hI ih => ?_) (0, 0, (-1)) ls ⟨lv_sub hl [0, 1, 2, 3, 4, 5, 6] rfl, ⟨⟨(by (try dsimp only); decide), (by (try dsimp only); decide), (by (try dsimp only); rw [ti_0]; exact hb13.1)⟩, isB0, Or.inl (by (try dsimp only); decide), bbJ_0⟩⟩
      obtain ⟨ii, ov, be⟩ := x9
      obtain ⟨hl, hinv⟩ := hI
      have hl : lv_has ls 8 [(6, .int ii), (5, .int ov), (4, .int be), (0, .ref h0), (1, .int x1), (2, .int x2), (3, .int x3)] := hl
      have hinv : (0 ≤ ii.toInt ∧ ii.toInt ≤ 12 ∧ ii.toInt ≤ (f13 (x1.toNatClampNeg)).toInt) ∧ isB ov ∧ (be.toInt = -1 ∨ ((0 ≤ be.toInt ∧ be.toInt < 12) ∧ 0 ≤ (f12 ((12 * x1) + be).toNatClampNeg).toInt ∧ (f12 ((12 * x1) + be).toNatClampNeg).toInt < (q 7).toInt)) ∧ bbJ (VALW (lqW (q 0) (q 1) (q 2) (q 3) (q 4) (q 5) (q 6)) f8 f9 f10 f11 f_9) (q 7) (gbB f12 x1) x2 x3 ii be ov := hinv
      obtain ⟨hii, hBo, hbe, hbb⟩ := hinv
      have h12x1 : (12 * x1).toInt = 12 * x1.toInt := by rw [fb_mulI (by rw [ti_12]; omega) (by rw [ti_12]; omega), ti_12]
      have ht := tri_in (d := x2.toInt) (by omega)
      refine lv_iload hx hb dX13_bagBest_37 (lv_at hl 0 rfl) ?_
      refine lv_aload_n hx hb dX13_bagBest_39 rfl (lv_at hl 3 rfl) ?_
      refine va_get (D := D) (ci := 10) (v := .ref (a 13)) (C := RX13) (T := TX13) (N := 45) hx hb hts in_X13_bagBest_X13 hown hE.1 hP 0 rfl rfl 13 (by decide +kernel) (hts (.fieldLink RX13 44 "ClauseBookModel" "bagged" "[I") (List.mem_of_getElem? (i := 2) rfl)) (fun _ h9 => h9) rfl dX13_bagBest_40 ?_
      refine lv_iload_n hx hb dX13_bagBest_43 rfl (lv_at hl 4 rfl) ?_
      refine va_iald hx hb hE.1 hP 12 0 rfl rfl (by rw [vp_in_iff]; first | omega | (rw [fb_addI (by omega) (by omega)]; omega)) dX13_bagBest_44 ?_
      refine lv_topi (fun z_15 ez_15 => ?_)
      have hbz_15 : 0 ≤ z_15.toInt ∧ z_15.toInt ≤ 12 := by rw [ez_15]; exact hbg _ (tn3 (by omega) (by omega))
      have htz_15 : z_15.toInt = (f13 (x1.toNatClampNeg)).toInt := by rw [ez_15]
      refine lv_icmp_ge (tgt := 128) hx hb dX13_bagBest_45 (by decide +kernel) (fun c_16 => ?_) (fun c_16 => ?_)
      · rw [fa_le] at c_16
        refine lv_iload hx hb dX13_bagBest_128 (lv_at hl 1 rfl) ?_
        refine lv_if_eq (tgt := 138) hx hb dX13_bagBest_130 (by decide +kernel) (fun c_17 => ?_) (fun c_17 => ?_)
        · rw [fa_eq] at c_17
          try rw [ti_0] at c_17
          refine lv_iload hx hb dX13_bagBest_138 (lv_at hl 2 rfl) ?_
          exact W.iret hx hb hr (fun t ht hW => ⟨⟨_, (0, l_7, l_8, f_9, f_10, f_11, f_12, f_13, f_14), rfl, ⟨(show isB 0 from isB0), (show ∀ j : Nat, isB (f_14 j) from hZ), (show (0 ≤ x1.toInt ∧ x1.toInt ≤ 2) ∧ spK x2 x3 → ∀ j : Nat, (j : Int) < (q 7).toInt → mesP f8 f9 f10 f11 f_9 f_10 f_11 j from (fun _ => hMEr)), (show bbQ (VALW (lqW (q 0) (q 1) (q 2) (q 3) (q 4) (q 5) (q 6)) f8 f9 f10 f11 f_9) (q 7) (f13 (x1.toNatClampNeg)) (gbB f12 x1) (0 ≤ x1.toInt ∧ x1.toInt ≤ 2) x2 x3 be from (bbJ_end ⟨by omega, ⟨⟨(by omega), (by omega)⟩, (by omega), (by omega)⟩⟩ hbb (by omega) (by omega) (by first | exact Or.inl ⟨by omega, rfl⟩ | exact Or.inr ⟨by omega, by decide⟩)))⟩, by rw [ht]; exact hP.sub [0, 1, 2, 3, 4, 5, 6, 7, 8, 9, 10, 11, 12] rfl, hD.sub [0, 1, 2, 3, 4, 5, 6, 7, 8, 9, 10, 11, 12] (by decide +kernel) rfl⟩, hS.F ht⟩) hS.2.2 dX13_bagBest_140
        · rw [fa_eq] at c_17
          try rw [ti_0] at c_17
          refine lv_bipush (v := (-5)) hx hb dX13_bagBest_133 (by decide +kernel) ?_
          refine lv_goto (tgt := 140) hx hb dX13_bagBest_135 (by decide +kernel) ?_
          exact W.iret hx hb hr (fun t ht hW => ⟨⟨_, (0, l_7, l_8, f_9, f_10, f_11, f_12, f_13, f_14), rfl, ⟨(show isB 0 from isB0), (show ∀ j : Nat, isB (f_14 j) from hZ), (show (0 ≤ x1.toInt ∧ x1.toInt ≤ 2) ∧ spK x2 x3 → ∀ j : Nat, (j : Int) < (q 7).toInt → mesP f8 f9 f10 f11 f_9 f_10 f_11 j from (fun _ => hMEr)), (show bbQ (VALW (lqW (q 0) (q 1) (q 2) (q 3) (q 4) (q 5) (q 6)) f8 f9 f10 f11 f_9) (q 7) (f13 (x1.toNatClampNeg)) (gbB f12 x1) (0 ≤ x1.toInt ∧ x1.toInt ≤ 2) x2 x3 ((-5) : Int32) from (bbJ_end ⟨by omega, ⟨⟨(by omega), (by omega)⟩, (by omega), (by omega)⟩⟩ hbb (by omega) (by omega) (by first | exact Or.inl ⟨by omega, rfl⟩ | exact Or.inr ⟨by omega, by decide⟩)))⟩, by rw [ht]; exact hP.sub [0, 1, 2, 3, 4, 5, 6, 7, 8, 9, 10, 11, 12] rfl, hD.sub [0, 1, 2, 3, 4, 5, 6, 7, 8, 9, 10, 11, 12] (by decide +kernel) rfl⟩, hS.F ht⟩) hS.2.2 dX13_bagBest_140
      · rw [fa_le] at c_16
        refine lv_aload_n hx hb dX13_bagBest_48 rfl (lv_at hl 3 rfl) ?_
        refine va_get (D := D) (ci := 10) (v := .ref (a 12)) (C := RX13) (T := TX13) (N := 45) hx hb hts in_X13_bagBest_X13 hown hE.1 hP 0 rfl rfl 12 (by decide +kernel) (hts (.fieldLink RX13 41 "ClauseBookModel" "bag" "[I") (List.mem_of_getElem? (i := 3) rfl)) (fun _ h9 => h9) rfl dX13_bagBest_49 ?_
        refine lv_bipush (v := 12) hx hb dX13_bagBest_52 (by decide +kernel) ?_
        refine lv_iload_n hx hb dX13_bagBest_54 rfl (lv_at hl 4 rfl) ?_
        refine lv_imul hx hb dX13_bagBest_55 ?_
        refine lv_iload hx hb dX13_bagBest_56 (lv_at hl 0 rfl) ?_
        refine lv_iadd hx hb dX13_bagBest_58 ?_
        refine va_iald hx hb hE.1 hP 11 0 rfl rfl (by rw [vp_in_iff]; first | omega | (rw [fb_addI (by omega) (by omega)]; omega)) dX13_bagBest_59 ?_
        refine lv_topi (fun z_18 ez_18 => ?_)
        have hgz : z_18 = gbB f12 x1 ii.toNatClampNeg := by show z_18 = f12 (12 * x1.toNatClampNeg + ii.toNatClampNeg); rw [ez_18, ix12 (by omega) (by omega)]
        refine lv_istore (lv' := [(7, .int z_18), (6, .int ii), (5, .int ov), (4, .int be), (0, .ref h0), (1, .int x1), (2, .int x2), (3, .int x3)]) hx hb dX13_bagBest_60 hl (by decide +kernel) rfl (fun ls hl => ?_)
        refine lv_aload_n hx hb dX13_bagBest_62 rfl (lv_at hl 4 rfl) ?_
        refine lv_iload hx hb dX13_bagBest_63 (lv_at hl 0 rfl) ?_
        refine vp_callSi (W.runV (As := [.int z_18]) (rest := []) ⟨hx, hb, hml, hown, hts⟩ (c_X13_isClause l D T h0 [.int (q 0), .int (q 1), .int (q 2), .int (q 3), .int (q 4), .int (q 5), .int (q 6), .int (q 7), .ref (a 8), .ref (a 9), .ref (a 10), .ref (a 11), .ref (a 12), .ref (a 13), .int 0, .long l_7, .long l_8, .ref (a 17), .ref (a 18), .ref (a 19), .ref (a 20), .ref (a 21), .ref (a 22), .ref (a 23), .int (q 24), .ref (a 25), .int (q 26), .ref (a 27), .int (q 28), .int (q 29), .int (q 30), .int (q 31), .int (q 32), .int (q 33), .ref (a 34), .ref (a 35), .ref (a 36), .ref (a 37), .ref (a 38), .ref (a 39), .ref (a 40), .int (q 41), .ref (a 42), .int (q 43), .int (q 44)] z_18 (q 7) rfl (by omega)) (cwV 1 hts gX13_bagBest_X13_isClause rfl rfl rfl hv_X13_isClause ⟨Nat.le_of_ble_eq_true rfl, Nat.le_of_ble_eq_true rfl⟩) (pR_V (q := (RX13, TX13, 45)) (ci := 10) (q0 := 0) hP hE rfl rfl [0] rfl) rfl rfl hl.1 rfl (lv_room (Nat.le_of_ble_eq_true rfl)) dX13_bagBest_65 ⟨Nat.le_of_ble_eq_true rfl, Nat.le_of_ble_eq_true rfl⟩) (fun r_19 hr_19 => ?_)
        rcases bool_post hr_19 with ⟨c_20, rfl⟩ | ⟨c_20, rfl⟩
        · refine lv_if_eq (tgt := 122) hx hb dX13_bagBest_68 (by decide +kernel) (fun c9 => absurd c9 (by decide +kernel)) (fun _ => ?_)
          refine lv_iload hx hb dX13_bagBest_71 (lv_at hl 2 rfl) ?_
          refine lv_aload_n hx hb dX13_bagBest_73 rfl (lv_at hl 4 rfl) ?_
          refine lv_iload hx hb dX13_bagBest_74 (lv_at hl 0 rfl) ?_
          refine lv_iload_n hx hb dX13_bagBest_76 rfl (lv_at hl 6 rfl) ?_
          refine lv_iload_n hx hb dX13_bagBest_77 rfl (lv_at hl 7 rfl) ?_
          refine vp_callSi (W.runV (As := [.int z_18, .int x2, .int x3]) (rest := [.int ov]) ⟨hx, hb, hml, hown, hts⟩ (c_X13_isMuchAt l D T h0 [.int (q 0), .int (q 1), .int (q 2), .int (q 3), .int (q 4), .int (q 5), .int (q 6), .int (q 7), .ref (a 8), .ref (a 9), .ref (a 10), .ref (a 11), .ref (a 12), .ref (a 13), .int 0, .long l_7, .long l_8, .ref (a 17), .ref (a 18), .ref (a 19), .ref (a 20), .ref (a 21), .ref (a 22), .ref (a 23), .int (q 24), .ref (a 25), .int (q 26), .ref (a 27), .int (q 28), .int (q 29), .int (q 30), .int (q 31), .int (q 32), .int (q 33), .ref (a 34), .ref (a 35), .ref (a 36), .ref (a 37), .ref (a 38), .ref (a 39), .ref (a 40), .int (q 41), .ref (a 42), .int (q 43), .int (q 44)] (a 22) f_14 z_18 x2 x3 rfl hZ (by omega) (by omega) (by omega)) (cwV 3 hts gX13_bagBest_X13_isMuchAt rfl rfl rfl hv_X13_isMuchAt ⟨Nat.le_of_ble_eq_true rfl, Nat.le_of_ble_eq_true rfl⟩) (pR_V (q := (RX13, TX13, 45)) (ci := 10) (q0 := 0) hP hE rfl rfl [0, 10] rfl) rfl rfl hl.1 rfl (lv_room (Nat.le_of_ble_eq_true rfl)) dX13_bagBest_78 ⟨Nat.le_of_ble_eq_true rfl, Nat.le_of_ble_eq_true rfl⟩) (fun r_21 hr_21 => ?_)
          have hv9 : tabW f_12 f_13 f_14 z_18 x2 x3 = (VALW (lqW (q 0) (q 1) (q 2) (q 3) (q 4) (q 5) (q 6)) f8 f9 f10 f11 f_9) z_18 x2 x3 := hTV z_18 x2 x3 ⟨⟨(by omega), (by omega)⟩, (by omega), (by omega)⟩ (by omega) (by omega)
          have hq9 : 1 ≤ (f_13 (slN z_18 x2 x3)).toInt := hW1 _ (by have h9 := slN_b (c := z_18) (x := (q 7)) (t := x2) (k := x3) (by omega) ⟨⟨(by omega), (by omega)⟩, (by omega), (by omega)⟩; omega)
          have hz9 : r_21.toInt = 0 ↔ ¬ ((VALW (lqW (q 0) (q 1) (q 2) (q 3) (q 4) (q 5) (q 6)) f8 f9 f10 f11 f_9) z_18 x2 x3).2.toInt = 0 := mz_iff hv9 hr_21.2 hq9
          refine lv_ior hx hb dX13_bagBest_81 ?_
          refine lv_topi (fun z_22 ez_22 => ?_)
          have hBz_22 : isB z_22 := by rw [ez_22]; exact isB.or hBo hr_21.1
          have ho9 : z_22.toInt = 0 ↔ (ov.toInt = 0 ∧ r_21.toInt = 0) := by rw [ez_22]; exact or_iff hBo hr_21.1
          refine lv_istore (lv' := [(5, .int z_22), (7, .int z_18), (6, .int ii), (4, .int be), (0, .ref h0), (1, .int x1), (2, .int x2), (3, .int x3)]) hx hb dX13_bagBest_82 hl (by decide +kernel) rfl (fun ls hl => ?_)
          refine lv_iload hx hb dX13_bagBest_84 (lv_at hl 3 rfl) ?_
          refine lv_iconst (v := (-1)) hx hb dX13_bagBest_86 (by decide +kernel) ?_
          refine lv_icmp_eq (tgt := 113) hx hb dX13_bagBest_87 (by decide +kernel) (fun c_23 => ?_) (fun c_23 => ?_)
          · rw [fa_eq] at c_23
            try rw [ti_n1] at c_23
            refine lv_iload hx hb dX13_bagBest_113 (lv_at hl 2 rfl) ?_
            refine lv_goto (tgt := 120) hx hb dX13_bagBest_115 (by decide +kernel) ?_
            refine lv_istore (lv' := [(4, .int ii), (5, .int z_22), (7, .int z_18), (6, .int ii), (0, .ref h0), (1, .int x1), (2, .int x2), (3, .int x3)]) hx hb dX13_bagBest_120 hl (by decide +kernel) rfl (fun ls hl => ?_)
            obtain ⟨z_24, ez_24⟩ : ∃ y : Int32, y = ii + 1 := ⟨_, rfl⟩
            refine lv_iinc (v := z_24) (lv' := [(6, .int z_24), (4, .int ii), (5, .int z_22), (7, .int z_18), (0, .ref h0), (1, .int x1), (2, .int x2), (3, .int x3)]) hx hb dX13_bagBest_122 hl (k := 3) rfl (by rw [ez_24]; rfl) (by decide +kernel) rfl (fun ls hl => ?_)
            refine lv_goto (tgt := 37) hx hb dX13_bagBest_125 (by decide +kernel) ?_
            have hi9 : z_24.toInt = ii.toInt + 1 := by rw [ez_24]; exact inc1 (i := ii) (n := 1000) (by omega) (by decide +kernel)
            exact ih (z_24, z_22, ii) ls ⟨lv_sub hl [0, 2, 1, 4, 5, 6, 7] rfl, ⟨⟨(by (try dsimp only); omega), (by (try dsimp only); omega), (by (try dsimp only); omega)⟩, hBz_22, (Or.inr ⟨(by (try dsimp only); omega), (by (try dsimp only); rw [← ez_18]; omega)⟩), bbJ_step hbb (by omega) hi9 (by rw [← hgz]; omega) (by rw [← hgz]; exact hz9) ho9 (fun _ => VAL_low (l := lqW (q 0) (q 1) (q 2) (q 3) (q 4) (q 5) (q 6)) hL.1 hL.2 31 _ _ _) (Or.inl ⟨rfl, Or.inl (by omega)⟩)⟩⟩ (by (try dsimp only); omega)
          · rw [fa_eq] at c_23
            try rw [ti_n1] at c_23
            refine lv_aload_n hx hb dX13_bagBest_90 rfl (lv_at hl 4 rfl) ?_
            refine lv_iload hx hb dX13_bagBest_91 (lv_at hl 1 rfl) ?_
            refine lv_aload_n hx hb dX13_bagBest_93 rfl (lv_at hl 4 rfl) ?_
            refine va_get (D := D) (ci := 10) (v := .ref (a 12)) (C := RX13) (T := TX13) (N := 45) hx hb hts in_X13_bagBest_X13 hown hE.1 hP 0 rfl rfl 12 (by decide +kernel) (hts (.fieldLink RX13 41 "ClauseBookModel" "bag" "[I") (List.mem_of_getElem? (i := 3) rfl)) (fun _ h9 => h9) rfl dX13_bagBest_94 ?_
            refine lv_bipush (v := 12) hx hb dX13_bagBest_97 (by decide +kernel) ?_
            refine lv_iload_n hx hb dX13_bagBest_99 rfl (lv_at hl 5 rfl) ?_
            refine lv_imul hx hb dX13_bagBest_100 ?_
            refine lv_iload hx hb dX13_bagBest_101 (lv_at hl 3 rfl) ?_
            refine lv_iadd hx hb dX13_bagBest_103 ?_
            refine va_iald hx hb hE.1 hP 11 0 rfl rfl (by rw [vp_in_iff]; first | omega | (rw [fb_addI (by omega) (by omega)]; omega)) dX13_bagBest_104 ?_
            refine lv_topi (fun z_25 ez_25 => ?_)
            have hqz_25 : 0 ≤ z_25.toInt ∧ z_25.toInt < (q 7).toInt := by rw [ez_25]; omega
            have hgb : z_25 = gbB f12 x1 be.toNatClampNeg := by show z_25 = f12 (12 * x1.toNatClampNeg + be.toNatClampNeg); rw [ez_25, ix12 (by omega) (by omega)]
            have hv8 : tabW f_12 f_13 f_14 z_25 x2 x3 = (VALW (lqW (q 0) (q 1) (q 2) (q 3) (q 4) (q 5) (q 6)) f8 f9 f10 f11 f_9) z_25 x2 x3 := hTV z_25 x2 x3 ⟨⟨(by omega), (by omega)⟩, (by omega), (by omega)⟩ (by omega) (by omega)
            have hq8 : 1 ≤ (f_13 (slN z_25 x2 x3)).toInt := hW1 _ (by have h9 := slN_b (c := z_25) (x := (q 7)) (t := x2) (k := x3) (by omega) ⟨⟨(by omega), (by omega)⟩, (by omega), (by omega)⟩; omega)
            refine lv_iload_n hx hb dX13_bagBest_105 rfl (lv_at hl 6 rfl) ?_
            refine lv_iload_n hx hb dX13_bagBest_106 rfl (lv_at hl 7 rfl) ?_
            refine vp_callSi (W.runV (As := [.int z_18, .int z_25, .int x2, .int x3]) (rest := []) ⟨hx, hb, hml, hown, hts⟩ (c_X13_comparedAt l D T h0 [.int (q 0), .int (q 1), .int (q 2), .int (q 3), .int (q 4), .int (q 5), .int (q 6), .int (q 7), .ref (a 8), .ref (a 9), .ref (a 10), .ref (a 11), .ref (a 12), .ref (a 13), .int 0, .long l_7, .long l_8, .ref (a 17), .ref (a 18), .ref (a 19), .ref (a 20), .ref (a 21), .ref (a 22), .ref (a 23), .int (q 24), .ref (a 25), .int (q 26), .ref (a 27), .int (q 28), .int (q 29), .int (q 30), .int (q 31), .int (q 32), .int (q 33), .ref (a 34), .ref (a 35), .ref (a 36), .ref (a 37), .ref (a 38), .ref (a 39), .ref (a 40), .int (q 41), .ref (a 42), .int (q 43), .int (q 44)] (a 20) f_12 (a 21) f_13 z_18 z_25 x2 x3 rfl rfl (by omega) (by omega) (by omega) (by omega) (fun j hj => hW1 j (by omega)) (fun j hj => hW1 j (by omega))) (cwV 4 hts gX13_bagBest_X13_comparedAt rfl rfl rfl hv_X13_comparedAt ⟨Nat.le_of_ble_eq_true rfl, Nat.le_of_ble_eq_true rfl⟩) (pR_V (q := (RX13, TX13, 45)) (ci := 10) (q0 := 0) hP hE rfl rfl [0, 8, 9] rfl) rfl rfl hl.1 rfl (lv_room (Nat.le_of_ble_eq_true rfl)) dX13_bagBest_107 ⟨Nat.le_of_ble_eq_true rfl, Nat.le_of_ble_eq_true rfl⟩) (fun r_26 hr_26 => ?_)
            have hc9 : ¬ ((VALW (lqW (q 0) (q 1) (q 2) (q 3) (q 4) (q 5) (q 6)) f8 f9 f10 f11 f_9) (gbB f12 x1 ii.toNatClampNeg) x2 x3).2.toInt = 0 → ¬ ((VALW (lqW (q 0) (q 1) (q 2) (q 3) (q 4) (q 5) (q 6)) f8 f9 f10 f11 f_9) (gbB f12 x1 be.toNatClampNeg) x2 x3).2.toInt = 0 → cmpP ((VALW (lqW (q 0) (q 1) (q 2) (q 3) (q 4) (q 5) (q 6)) f8 f9 f10 f11 f_9) (gbB f12 x1 ii.toNatClampNeg) x2 x3) ((VALW (lqW (q 0) (q 1) (q 2) (q 3) (q 4) (q 5) (q 6)) f8 f9 f10 f11 f_9) (gbB f12 x1 be.toNatClampNeg) x2 x3) = r_26.toInt := by rw [← hgz, ← hgb]; exact fun h8 h7 => cm_of hv9 hv8 hq9 hq8 hr_26 h8 h7
            refine lv_if_le (tgt := 118) hx hb dX13_bagBest_110 (by decide +kernel) (fun c_27 => ?_) (fun c_27 => ?_)
            · rw [fa_le] at c_27
              try rw [ti_0] at c_27
              refine lv_iload hx hb dX13_bagBest_118 (lv_at hl 3 rfl) ?_
              refine lv_istore (lv' := [(4, .int be), (5, .int z_22), (7, .int z_18), (6, .int ii), (0, .ref h0), (1, .int x1), (2, .int x2), (3, .int x3)]) hx hb dX13_bagBest_120 hl (by decide +kernel) rfl (fun ls hl => ?_)
              obtain ⟨z_28, ez_28⟩ : ∃ y : Int32, y = ii + 1 := ⟨_, rfl⟩
              refine lv_iinc (v := z_28) (lv' := [(6, .int z_28), (4, .int be), (5, .int z_22), (7, .int z_18), (0, .ref h0), (1, .int x1), (2, .int x2), (3, .int x3)]) hx hb dX13_bagBest_122 hl (k := 3) rfl (by rw [ez_28]; rfl) (by decide +kernel) rfl (fun ls hl => ?_)
              refine lv_goto (tgt := 37) hx hb dX13_bagBest_125 (by decide +kernel) ?_
              have hi9 : z_28.toInt = ii.toInt + 1 := by rw [ez_28]; exact inc1 (i := ii) (n := 1000) (by omega) (by decide +kernel)
              exact ih (z_28, z_22, be) ls ⟨lv_sub hl [0, 2, 1, 4, 5, 6, 7] rfl, ⟨⟨(by (try dsimp only); omega), (by (try dsimp only); omega), (by (try dsimp only); omega)⟩, hBz_22, hbe, bbJ_step hbb (by omega) hi9 (by rw [← hgz]; omega) (by rw [← hgz]; exact hz9) ho9 (fun _ => VAL_low (l := lqW (q 0) (q 1) (q 2) (q 3) (q 4) (q 5) (q 6)) hL.1 hL.2 31 _ _ _) (Or.inr ⟨rfl, by omega, fun h9 h8 => by rw [hc9 h9 h8]; omega⟩)⟩⟩ (by (try dsimp only); omega)
            · rw [fa_le] at c_27
              try rw [ti_0] at c_27
              refine lv_iload hx hb dX13_bagBest_113 (lv_at hl 2 rfl) ?_
              refine lv_goto (tgt := 120) hx hb dX13_bagBest_115 (by decide +kernel) ?_
              refine lv_istore (lv' := [(4, .int ii), (5, .int z_22), (7, .int z_18), (6, .int ii), (0, .ref h0), (1, .int x1), (2, .int x2), (3, .int x3)]) hx hb dX13_bagBest_120 hl (by decide +kernel) rfl (fun ls hl => ?_)
              obtain ⟨z_29, ez_29⟩ : ∃ y : Int32, y = ii + 1 := ⟨_, rfl⟩
              refine lv_iinc (v := z_29) (lv' := [(6, .int z_29), (4, .int ii), (5, .int z_22), (7, .int z_18), (0, .ref h0), (1, .int x1), (2, .int x2), (3, .int x3)]) hx hb dX13_bagBest_122 hl (k := 3) rfl (by rw [ez_29]; rfl) (by decide +kernel) rfl (fun ls hl => ?_)
              refine lv_goto (tgt := 37) hx hb dX13_bagBest_125 (by decide +kernel) ?_
              have hi9 : z_29.toInt = ii.toInt + 1 := by rw [ez_29]; exact inc1 (i := ii) (n := 1000) (by omega) (by decide +kernel)
              exact ih (z_29, z_22, ii) ls ⟨lv_sub hl [0, 2, 1, 4, 5, 6, 7] rfl, ⟨⟨(by (try dsimp only); omega), (by (try dsimp only); omega), (by (try dsimp only); omega)⟩, hBz_22, (Or.inr ⟨(by (try dsimp only); omega), (by (try dsimp only); rw [← ez_18]; omega)⟩), bbJ_step hbb (by omega) hi9 (by rw [← hgz]; omega) (by rw [← hgz]; exact hz9) ho9 (fun _ => VAL_low (l := lqW (q 0) (q 1) (q 2) (q 3) (q 4) (q 5) (q 6)) hL.1 hL.2 31 _ _ _) (Or.inl ⟨rfl, Or.inr ⟨by omega, fun h9 h8 => by rw [hc9 h9 h8]; omega⟩⟩)⟩⟩ (by (try dsimp only); omega)
        · refine lv_if_eq (tgt := 122) hx hb dX13_bagBest_68 (by decide +kernel) (fun _ => ?_) (fun c9 => absurd c9 (by decide +kernel))
          obtain ⟨z_30, ez_30⟩ : ∃ y : Int32, y = ii + 1 := ⟨_, rfl⟩
          refine lv_iinc (v := z_30) (lv' := [(6, .int z_30), (7, .int z_18), (5, .int ov), (4, .int be), (0, .ref h0), (1, .int x1), (2, .int x2), (3, .int x3)]) hx hb dX13_bagBest_122 hl (k := 1) rfl (by rw [ez_30]; rfl) (by decide +kernel) rfl (fun ls hl => ?_)
          refine lv_goto (tgt := 37) hx hb dX13_bagBest_125 (by decide +kernel) ?_
          have hi9 : z_30.toInt = ii.toInt + 1 := by rw [ez_30]; exact inc1 (i := ii) (n := 1000) (by omega) (by decide +kernel)
          exact ih (z_30, ov, be) ls ⟨lv_sub hl [0, 2, 3, 4, 5, 6, 7] rfl, ⟨⟨(by (try dsimp only); omega), (by (try dsimp only); omega), (by (try dsimp only); omega)⟩, hBo, hbe, bbJ_skip hbb hi9 (by rw [← hgz]; omega)⟩⟩ (by (try dsimp only); omega)
    · refine lv_if_ne (tgt := 18) hx hb dX13_bagBest_12 (by decide +kernel) (fun c9 => absurd c9 (by decide +kernel)) (fun _ => ?_)
      refine lv_bipush (v := (-2)) hx hb dX13_bagBest_15 (by decide +kernel) ?_
      exact W.iret hx hb hr (fun t ht hW => ⟨⟨_, ((q 14), v, w, f17, f18, f19, f20, f21, f22), rfl, ⟨(show isB (q 14) from hB), (show ∀ j : Nat, isB (f22 j) from hZ), (show (0 ≤ x1.toInt ∧ x1.toInt ≤ 2) ∧ spK x2 x3 → ∀ j : Nat, (j : Int) < (q 7).toInt → mesP f8 f9 f10 f11 f17 f18 f19 j from (fun h9 => by exfalso; obtain ⟨h1, h2, h3⟩ := h9; omega)), (show bbQ (VALW (lqW (q 0) (q 1) (q 2) (q 3) (q 4) (q 5) (q 6)) f8 f9 f10 f11 f17) (q 7) (f13 (x1.toNatClampNeg)) (gbB f12 x1) (0 ≤ x1.toInt ∧ x1.toInt ≤ 2) x2 x3 ((-2) : Int32) from (Or.inl ⟨(fun h9 => by obtain ⟨h1, h2, h3⟩ := h9; omega), (by decide +kernel)⟩))⟩, by rw [ht]; exact hP.sub [0, 1, 2, 3, 4, 5, 6, 7, 8, 9, 10, 11, 12] rfl, hD.sub [0, 1, 2, 3, 4, 5, 6, 7, 8, 9, 10, 11, 12] (by decide +kernel) rfl⟩, hS.F ht⟩) hS.2.2 dX13_bagBest_17
  · refine lv_if_eq (tgt := 15) hx hb dX13_bagBest_4 (by decide +kernel) (fun _ => ?_) (fun c9 => absurd c9 (by decide +kernel))
    refine lv_bipush (v := (-2)) hx hb dX13_bagBest_15 (by decide +kernel) ?_
    exact W.iret hx hb hr (fun t ht hW => ⟨⟨_, ((q 14), v, w, f17, f18, f19, f20, f21, f22), rfl, ⟨(show isB (q 14) from hB), (show ∀ j : Nat, isB (f22 j) from hZ), (show (0 ≤ x1.toInt ∧ x1.toInt ≤ 2) ∧ spK x2 x3 → ∀ j : Nat, (j : Int) < (q 7).toInt → mesP f8 f9 f10 f11 f17 f18 f19 j from (fun h9 => by exfalso; obtain ⟨h1, h2, h3⟩ := h9; omega)), (show bbQ (VALW (lqW (q 0) (q 1) (q 2) (q 3) (q 4) (q 5) (q 6)) f8 f9 f10 f11 f17) (q 7) (f13 (x1.toNatClampNeg)) (gbB f12 x1) (0 ≤ x1.toInt ∧ x1.toInt ≤ 2) x2 x3 ((-2) : Int32) from (Or.inl ⟨(fun h9 => by obtain ⟨h1, h2, h3⟩ := h9; omega), (by decide +kernel)⟩))⟩, by rw [ht]; exact hP.sub [0, 1, 2, 3, 4, 5, 6, 7, 8, 9, 10, 11, 12] rfl, hD.sub [0, 1, 2, 3, 4, 5, 6, 7, 8, 9, 10, 11, 12] (by decide +kernel) rfl⟩, hS.F ht⟩) hS.2.2 dX13_bagBest_17
theorem dX13_isNamed_0 : decode cX13_isNamed 0 = .ok (.iconst 0, 1) := by decide +kernel
theorem dX13_isNamed_1 : decode cX13_isNamed 1 = .ok (.istore_n 2, 1) := by decide +kernel
theorem dX13_isNamed_12 : decode cX13_isNamed 12 = .ok (.iload_n 2, 1) := by decide +kernel
theorem dX13_isNamed_13 : decode cX13_isNamed 13 = .ok (.aload_n 0, 1) := by decide +kernel
theorem dX13_isNamed_14 : decode cX13_isNamed 14 = .ok (.getfield 28, 3) := by decide +kernel
theorem dX13_isNamed_17 : decode cX13_isNamed 17 = .ok (.iload_n 3, 1) := by decide +kernel
theorem dX13_isNamed_18 : decode cX13_isNamed 18 = .ok (.iaload, 1) := by decide +kernel
theorem dX13_isNamed_19 : decode cX13_isNamed 19 = .ok (.invokestatic 210, 3) := by decide +kernel
theorem dX13_isNamed_2 : decode cX13_isNamed 2 = .ok (.iconst 0, 1) := by decide +kernel
theorem dX13_isNamed_22 : decode cX13_isNamed 22 = .ok (.ifCond .le 13, 3) := by decide +kernel
theorem dX13_isNamed_25 : decode cX13_isNamed 25 = .ok (.aload_n 0, 1) := by decide +kernel
theorem dX13_isNamed_26 : decode cX13_isNamed 26 = .ok (.getfield 35, 3) := by decide +kernel
theorem dX13_isNamed_29 : decode cX13_isNamed 29 = .ok (.iload_n 3, 1) := by decide +kernel
theorem dX13_isNamed_3 : decode cX13_isNamed 3 = .ok (.istore_n 3, 1) := by decide +kernel
theorem dX13_isNamed_30 : decode cX13_isNamed 30 = .ok (.iaload, 1) := by decide +kernel
theorem dX13_isNamed_31 : decode cX13_isNamed 31 = .ok (.iload_n 1, 1) := by decide +kernel
theorem dX13_isNamed_32 : decode cX13_isNamed 32 = .ok (.if_icmp .eq 26, 3) := by decide +kernel
theorem dX13_isNamed_35 : decode cX13_isNamed 35 = .ok (.aload_n 0, 1) := by decide +kernel
theorem dX13_isNamed_36 : decode cX13_isNamed 36 = .ok (.getfield 28, 3) := by decide +kernel
theorem dX13_isNamed_39 : decode cX13_isNamed 39 = .ok (.iload_n 3, 1) := by decide +kernel
theorem dX13_isNamed_4 : decode cX13_isNamed 4 = .ok (.iload_n 3, 1) := by decide +kernel
theorem dX13_isNamed_40 : decode cX13_isNamed 40 = .ok (.iaload, 1) := by decide +kernel
theorem dX13_isNamed_41 : decode cX13_isNamed 41 = .ok (.invokestatic 210, 3) := by decide +kernel
theorem dX13_isNamed_44 : decode cX13_isNamed 44 = .ok (.iconst 1, 1) := by decide +kernel
theorem dX13_isNamed_45 : decode cX13_isNamed 45 = .ok (.if_icmp .le 17, 3) := by decide +kernel
theorem dX13_isNamed_48 : decode cX13_isNamed 48 = .ok (.aload_n 0, 1) := by decide +kernel
theorem dX13_isNamed_49 : decode cX13_isNamed 49 = .ok (.getfield 38, 3) := by decide +kernel
theorem dX13_isNamed_5 : decode cX13_isNamed 5 = .ok (.aload_n 0, 1) := by decide +kernel
theorem dX13_isNamed_52 : decode cX13_isNamed 52 = .ok (.iload_n 3, 1) := by decide +kernel
theorem dX13_isNamed_53 : decode cX13_isNamed 53 = .ok (.iaload, 1) := by decide +kernel
theorem dX13_isNamed_54 : decode cX13_isNamed 54 = .ok (.iload_n 1, 1) := by decide +kernel
theorem dX13_isNamed_55 : decode cX13_isNamed 55 = .ok (.if_icmp .ne 7, 3) := by decide +kernel
theorem dX13_isNamed_58 : decode cX13_isNamed 58 = .ok (.iconst 1, 1) := by decide +kernel
theorem dX13_isNamed_59 : decode cX13_isNamed 59 = .ok (.goto 4, 3) := by decide +kernel
theorem dX13_isNamed_6 : decode cX13_isNamed 6 = .ok (.getfield 205, 3) := by decide +kernel
theorem dX13_isNamed_62 : decode cX13_isNamed 62 = .ok (.iconst 0, 1) := by decide +kernel
theorem dX13_isNamed_63 : decode cX13_isNamed 63 = .ok (.ior, 1) := by decide +kernel
theorem dX13_isNamed_64 : decode cX13_isNamed 64 = .ok (.istore_n 2, 1) := by decide +kernel
theorem dX13_isNamed_65 : decode cX13_isNamed 65 = .ok (.iinc 3 1, 3) := by decide +kernel
theorem dX13_isNamed_68 : decode cX13_isNamed 68 = .ok (.goto (-64), 3) := by decide +kernel
theorem dX13_isNamed_71 : decode cX13_isNamed 71 = .ok (.iload_n 2, 1) := by decide +kernel
theorem dX13_isNamed_72 : decode cX13_isNamed 72 = .ok (.ireturn, 1) := by decide +kernel
theorem dX13_isNamed_9 : decode cX13_isNamed 9 = .ok (.if_icmp .ge 62, 3) := by decide +kernel
set_option maxRecDepth 20000 in
theorem ggX13_isNamed_X13_names : GoodIn wsX13_isNamed wsX13_names := goodIn_r _ [8] rfl (by decide +kernel)
set_option maxRecDepth 20000 in
theorem gX13_isNamed_X13_names : GoodIn wsX13_isNamed (va_wsS RX13 210 yX13_names wsX13_names) := goodIn_app (goodIn_of _ (by decide +kernel)) ggX13_isNamed_X13_names
set_option maxRecDepth 20000 in
theorem in_X13_isNamed_X13 : ∀ w ∈ wsX130, w ∈ wsX13_isNamed := sub_r [9, 10, 11, 12, 13, 14, 15, 16, 17, 18, 19, 20, 21, 22, 23, 24, 25, 26, 27, 28, 29, 30, 31, 32, 33, 34, 35, 36, 37, 38, 39, 40, 41, 42, 43, 44, 45, 46, 47, 48, 49, 50, 51, 52, 53] rfl
set_option maxHeartbeats 4000000 in
set_option maxRecDepth 100000 in
theorem c_X13_isNamed (l : Launch) (D : va_G) (T : Nat → ClassId) (h0 : Nat) (fs0 : List Value) (h1 : Nat) (f1 : Nat → Int32) (h2 : Nat) (f2 : Nat → Int32) (h3 : Nat) (f3 : Nat → Int32) (x1 : Int32) (n : Int32) (e0_7 : fs0[7]? = some (.int n)) (e0_8 : fs0[8]? = some (.ref h1)) (e0_10 : fs0[10]? = some (.ref h2)) (e0_11 : fs0[11]? = some (.ref h3)) (hn : 0 ≤ n.toInt ∧ n.toInt ≤ 24) (hokR : okR f1 f2 f3) : Met l yX13_isNamed wsX13_isNamed ({ frames := 1, cells := 0, slots := 0, locals := 20 }) (pR [.ref h0, .int x1] D T [(h0, .inr (10, fs0)), (h1, .inl (T 0, 24, .inl f1)), (h2, .inl (T 0, 24, .inl f2)), (h3, .inl (T 0, 24, .inl f3))]) (vp_Si (fun r => isB r)) 0 0 (fun _ => False) := by
  refine Met.ofW (cc := cX13_isNamed) (maxL := 4) (ret := (some .boolean)) (by decide +kernel) rfl ?_
  intro p e s m args below meth c s₁ B hml hv
  obtain ⟨rfl, hP, hE⟩ := hv
  have hx := B.exec
  have hb := B.bytes
  have hr := B.returns
  have hts := atoms_spec (ws := wsX13_isNamed) B.pre
  have hown : s.vm.findClass RX13 = some m.cls := findClass_of_methodNamed B.named
  have hlocks := B.notSynchronized
  have hP : va_P D vwCl [(h0, .inr (10, fs0)), (h1, .inl (T 0, 24, .inl f1)), (h2, .inl (T 0, 24, .inl f2)), (h3, .inl (T 0, 24, .inl f3))] s.heap := hP
  have hl := lv_entry ([.ref h0, .int x1]) (n := 4) (Nat.le_of_ble_eq_true rfl)
  rw [lg_entry_eq]
  generalize (lg_sl ([.ref h0, .int x1]) ++ List.replicate (4 - (lg_sl ([.ref h0, .int x1])).length) Slot.unset).toArray = ls at hl ⊢
  have hl : lv_has ls 4 [(0, .ref h0), (1, .int x1)] := hl
  refine lv_iconst (v := 0) hx hb dX13_isNamed_0 (by decide +kernel) ?_
  refine lv_istore_n (lv' := [(2, .int 0), (0, .ref h0), (1, .int x1)]) hx hb dX13_isNamed_1 rfl hl (by decide +kernel) rfl (fun ls hl => ?_)
  refine lv_iconst (v := 0) hx hb dX13_isNamed_2 (by decide +kernel) ?_
  refine lv_istore_n (lv' := [(3, .int 0), (2, .int 0), (0, .ref h0), (1, .int x1)]) hx hb dX13_isNamed_3 rfl hl (by decide +kernel) rfl (fun ls hl => ?_)
  refine loopR (σ := (Int32) × (Int32)) (fun x9 ls => lv_has ls 4 [(3, .int x9.1), (2, .int x9.2), (0, .ref h0), (1, .int x1)] ∧ (0 ≤ x9.1.toInt ∧ isB x9.2)) (fun x9 => (24 - x9.1.toInt).toNat) (fun x9 ls hI ih => ?_) (0, 0) ls ⟨lv_sub hl [0, 1, 2, 3] rfl, ⟨(by (try dsimp only); decide), isB0⟩⟩
  obtain ⟨yy, is⟩ := x9
  obtain ⟨hl, hinv⟩ := hI
  have hl : lv_has ls 4 [(3, .int yy), (2, .int is), (0, .ref h0), (1, .int x1)] := hl
  have hinv : 0 ≤ yy.toInt ∧ isB is := hinv
  obtain ⟨hyy, hBi⟩ := hinv
  refine lv_iload_n hx hb dX13_isNamed_4 rfl (lv_at hl 0 rfl) ?_
  refine lv_aload_n hx hb dX13_isNamed_5 rfl (lv_at hl 2 rfl) ?_
  refine va_get (D := D) (ci := 10) (v := .int n) (C := RX13) (T := TX13) (N := 45) hx hb hts in_X13_isNamed_X13 hown hE.1 hP 0 rfl rfl 7 (by decide +kernel) (hts (.fieldLink RX13 205 "ClauseBookModel" "many" "I") (List.mem_of_getElem? (i := 1) rfl)) (fun _ h9 => h9) e0_7 dX13_isNamed_6 ?_
  refine lv_icmp_ge (tgt := 71) hx hb dX13_isNamed_9 (by decide +kernel) (fun c_1 => ?_) (fun c_1 => ?_)
  · rw [fa_le] at c_1
    refine lv_iload_n hx hb dX13_isNamed_71 rfl (lv_at hl 1 rfl) ?_
    exact W.zret hx hb hr (isB.nar hBi) (fun t ht hW => ⟨_, rfl, hBi, ht⟩) (fun _ h => by cases h) dX13_isNamed_72
  · rw [fa_le] at c_1
    refine lv_iload_n hx hb dX13_isNamed_12 rfl (lv_at hl 1 rfl) ?_
    refine lv_aload_n hx hb dX13_isNamed_13 rfl (lv_at hl 2 rfl) ?_
    refine va_get (D := D) (ci := 10) (v := .ref h1) (C := RX13) (T := TX13) (N := 45) hx hb hts in_X13_isNamed_X13 hown hE.1 hP 0 rfl rfl 8 (by decide +kernel) (hts (.fieldLink RX13 28 "ClauseBookModel" "kind" "[I") (List.mem_of_getElem? (i := 2) rfl)) (fun _ h9 => h9) e0_8 dX13_isNamed_14 ?_
    refine lv_iload_n hx hb dX13_isNamed_17 rfl (lv_at hl 0 rfl) ?_
    refine va_iald hx hb hE.1 hP 1 0 rfl rfl (by rw [vp_in_iff]; first | omega | (subst_vars; omega)) dX13_isNamed_18 ?_
    refine lv_topi (fun z_2 ez_2 => ?_)
    have hkz_2 : 0 ≤ z_2.toInt ∧ z_2.toInt ≤ 12 := by rw [ez_2]; exact (hokR _ (in24 (x := yy) (by omega)).1).1
    refine vp_callSi (W.runS (As := [.int z_2]) (rest := [.int is]) ⟨hx, hb, hml, hown, hts⟩ (c_X13_names l D T z_2 (by omega)) (va_cwS 1 hts gX13_isNamed_X13_names rfl rfl rfl hs_X13_names ⟨Nat.le_of_ble_eq_true rfl, Nat.le_of_ble_eq_true rfl⟩) (pR_S hP hE [] rfl) rfl rfl hl.1 rfl (lv_room (Nat.le_of_ble_eq_true rfl)) dX13_isNamed_19 ⟨Nat.le_of_ble_eq_true rfl, Nat.le_of_ble_eq_true rfl⟩) (fun r_3 hr_3 => ?_)
    refine lv_if_le (tgt := 35) hx hb dX13_isNamed_22 (by decide +kernel) (fun c_4 => ?_) (fun c_4 => ?_)
    · rw [fa_le] at c_4
      try rw [ti_0] at c_4
      refine lv_aload_n hx hb dX13_isNamed_35 rfl (lv_at hl 2 rfl) ?_
      refine va_get (D := D) (ci := 10) (v := .ref h1) (C := RX13) (T := TX13) (N := 45) hx hb hts in_X13_isNamed_X13 hown hE.1 hP 0 rfl rfl 8 (by decide +kernel) (hts (.fieldLink RX13 28 "ClauseBookModel" "kind" "[I") (List.mem_of_getElem? (i := 2) rfl)) (fun _ h9 => h9) e0_8 dX13_isNamed_36 ?_
      refine lv_iload_n hx hb dX13_isNamed_39 rfl (lv_at hl 0 rfl) ?_
      refine va_iald hx hb hE.1 hP 1 0 rfl rfl (by rw [vp_in_iff]; first | omega | (subst_vars; omega)) dX13_isNamed_40 ?_
      refine lv_topi (fun z_5 ez_5 => ?_)
      have hkz_5 : 0 ≤ z_5.toInt ∧ z_5.toInt ≤ 12 := by rw [ez_5]; exact (hokR _ (in24 (x := yy) (by omega)).1).1
      refine vp_callSi (W.runS (As := [.int z_5]) (rest := [.int is]) ⟨hx, hb, hml, hown, hts⟩ (c_X13_names l D T z_5 (by omega)) (va_cwS 1 hts gX13_isNamed_X13_names rfl rfl rfl hs_X13_names ⟨Nat.le_of_ble_eq_true rfl, Nat.le_of_ble_eq_true rfl⟩) (pR_S hP hE [] rfl) rfl rfl hl.1 rfl (lv_room (Nat.le_of_ble_eq_true rfl)) dX13_isNamed_41 ⟨Nat.le_of_ble_eq_true rfl, Nat.le_of_ble_eq_true rfl⟩) (fun r_6 hr_6 => ?_)
      refine lv_iconst (v := 1) hx hb dX13_isNamed_44 (by decide +kernel) ?_
      refine lv_icmp_le (tgt := 62) hx hb dX13_isNamed_45 (by decide +kernel) (fun c_7 => ?_) (fun c_7 => ?_)
      · rw [fa_le] at c_7
        try rw [ti_1] at c_7
        refine lv_iconst (v := 0) hx hb dX13_isNamed_62 (by decide +kernel) ?_
        refine lv_ior hx hb dX13_isNamed_63 ?_
        refine lv_topi (fun z_8 ez_8 => ?_)
        have hBz_8 : isB z_8 := by rw [ez_8]; exact isB.or hBi isB0
        refine lv_istore_n (lv' := [(2, .int z_8), (3, .int yy), (0, .ref h0), (1, .int x1)]) hx hb dX13_isNamed_64 rfl hl (by decide +kernel) rfl (fun ls hl => ?_)
        obtain ⟨z_9, ez_9⟩ : ∃ y : Int32, y = yy + 1 := ⟨_, rfl⟩
        refine lv_iinc (v := z_9) (lv' := [(3, .int z_9), (2, .int z_8), (0, .ref h0), (1, .int x1)]) hx hb dX13_isNamed_65 hl (k := 1) rfl (by rw [ez_9]; rfl) (by decide +kernel) rfl (fun ls hl => ?_)
        refine lv_goto (tgt := 4) hx hb dX13_isNamed_68 (by decide +kernel) ?_
        exact ih (z_9, z_8) ls ⟨lv_sub hl [0, 1, 2, 3] rfl, ⟨(by subst_vars; (try dsimp only); rw [inc1 (i := yy) (n := 1000) (by omega) (by decide +kernel)]; omega), hBz_8⟩⟩ (by subst_vars; (try dsimp only); rw [inc1 (i := yy) (n := 1000) (by omega) (by decide +kernel)]; omega)
      · rw [fa_le] at c_7
        try rw [ti_1] at c_7
        refine lv_aload_n hx hb dX13_isNamed_48 rfl (lv_at hl 2 rfl) ?_
        refine va_get (D := D) (ci := 10) (v := .ref h3) (C := RX13) (T := TX13) (N := 45) hx hb hts in_X13_isNamed_X13 hown hE.1 hP 0 rfl rfl 11 (by decide +kernel) (hts (.fieldLink RX13 38 "ClauseBookModel" "two" "[I") (List.mem_of_getElem? (i := 4) rfl)) (fun _ h9 => h9) e0_11 dX13_isNamed_49 ?_
        refine lv_iload_n hx hb dX13_isNamed_52 rfl (lv_at hl 0 rfl) ?_
        refine va_iald hx hb hE.1 hP 3 0 rfl rfl (by rw [vp_in_iff]; first | omega | (subst_vars; omega)) dX13_isNamed_53 ?_
        refine lv_topi (fun z_10 ez_10 => ?_)
        refine lv_iload_n hx hb dX13_isNamed_54 rfl (lv_at hl 3 rfl) ?_
        refine lv_icmp_ne (tgt := 62) hx hb dX13_isNamed_55 (by decide +kernel) (fun c_11 => ?_) (fun c_11 => ?_)
        · rw [fa_eq] at c_11
          refine lv_iconst (v := 0) hx hb dX13_isNamed_62 (by decide +kernel) ?_
          refine lv_ior hx hb dX13_isNamed_63 ?_
          refine lv_topi (fun z_12 ez_12 => ?_)
          have hBz_12 : isB z_12 := by rw [ez_12]; exact isB.or hBi isB0
          refine lv_istore_n (lv' := [(2, .int z_12), (3, .int yy), (0, .ref h0), (1, .int x1)]) hx hb dX13_isNamed_64 rfl hl (by decide +kernel) rfl (fun ls hl => ?_)
          obtain ⟨z_13, ez_13⟩ : ∃ y : Int32, y = yy + 1 := ⟨_, rfl⟩
          refine lv_iinc (v := z_13) (lv' := [(3, .int z_13), (2, .int z_12), (0, .ref h0), (1, .int x1)]) hx hb dX13_isNamed_65 hl (k := 1) rfl (by rw [ez_13]; rfl) (by decide +kernel) rfl (fun ls hl => ?_)
          refine lv_goto (tgt := 4) hx hb dX13_isNamed_68 (by decide +kernel) ?_
          exact ih (z_13, z_12) ls ⟨lv_sub hl [0, 1, 2, 3] rfl, ⟨(by subst_vars; (try dsimp only); rw [inc1 (i := yy) (n := 1000) (by omega) (by decide +kernel)]; omega), hBz_12⟩⟩ (by subst_vars; (try dsimp only); rw [inc1 (i := yy) (n := 1000) (by omega) (by decide +kernel)]; omega)
        · rw [fa_eq] at c_11
          refine lv_iconst (v := 1) hx hb dX13_isNamed_58 (by decide +kernel) ?_
          refine lv_goto (tgt := 63) hx hb dX13_isNamed_59 (by decide +kernel) ?_
          refine lv_ior hx hb dX13_isNamed_63 ?_
          refine lv_topi (fun z_14 ez_14 => ?_)
          have hBz_14 : isB z_14 := by rw [ez_14]; exact isB.or hBi isB1
          refine lv_istore_n (lv' := [(2, .int z_14), (3, .int yy), (0, .ref h0), (1, .int x1)]) hx hb dX13_isNamed_64 rfl hl (by decide +kernel) rfl (fun ls hl => ?_)
          obtain ⟨z_15, ez_15⟩ : ∃ y : Int32, y = yy + 1 := ⟨_, rfl⟩
          refine lv_iinc (v := z_15) (lv' := [(3, .int z_15), (2, .int z_14), (0, .ref h0), (1, .int x1)]) hx hb dX13_isNamed_65 hl (k := 1) rfl (by rw [ez_15]; rfl) (by decide +kernel) rfl (fun ls hl => ?_)
          refine lv_goto (tgt := 4) hx hb dX13_isNamed_68 (by decide +kernel) ?_
          exact ih (z_15, z_14) ls ⟨lv_sub hl [0, 1, 2, 3] rfl, ⟨(by subst_vars; (try dsimp only); rw [inc1 (i := yy) (n := 1000) (by omega) (by decide +kernel)]; omega), hBz_14⟩⟩ (by subst_vars; (try dsimp only); rw [inc1 (i := yy) (n := 1000) (by omega) (by decide +kernel)]; omega)
    · rw [fa_le] at c_4
      try rw [ti_0] at c_4
      refine lv_aload_n hx hb dX13_isNamed_25 rfl (lv_at hl 2 rfl) ?_
      refine va_get (D := D) (ci := 10) (v := .ref h2) (C := RX13) (T := TX13) (N := 45) hx hb hts in_X13_isNamed_X13 hown hE.1 hP 0 rfl rfl 10 (by decide +kernel) (hts (.fieldLink RX13 35 "ClauseBookModel" "one" "[I") (List.mem_of_getElem? (i := 3) rfl)) (fun _ h9 => h9) e0_10 dX13_isNamed_26 ?_
      refine lv_iload_n hx hb dX13_isNamed_29 rfl (lv_at hl 0 rfl) ?_
      refine va_iald hx hb hE.1 hP 2 0 rfl rfl (by rw [vp_in_iff]; first | omega | (subst_vars; omega)) dX13_isNamed_30 ?_
      refine lv_topi (fun z_16 ez_16 => ?_)
      refine lv_iload_n hx hb dX13_isNamed_31 rfl (lv_at hl 3 rfl) ?_
      refine lv_icmp_eq (tgt := 58) hx hb dX13_isNamed_32 (by decide +kernel) (fun c_17 => ?_) (fun c_17 => ?_)
      · rw [fa_eq] at c_17
        refine lv_iconst (v := 1) hx hb dX13_isNamed_58 (by decide +kernel) ?_
        refine lv_goto (tgt := 63) hx hb dX13_isNamed_59 (by decide +kernel) ?_
        refine lv_ior hx hb dX13_isNamed_63 ?_
        refine lv_topi (fun z_18 ez_18 => ?_)
        have hBz_18 : isB z_18 := by rw [ez_18]; exact isB.or hBi isB1
        refine lv_istore_n (lv' := [(2, .int z_18), (3, .int yy), (0, .ref h0), (1, .int x1)]) hx hb dX13_isNamed_64 rfl hl (by decide +kernel) rfl (fun ls hl => ?_)
        obtain ⟨z_19, ez_19⟩ : ∃ y : Int32, y = yy + 1 := ⟨_, rfl⟩
        refine lv_iinc (v := z_19) (lv' := [(3, .int z_19), (2, .int z_18), (0, .ref h0), (1, .int x1)]) hx hb dX13_isNamed_65 hl (k := 1) rfl (by rw [ez_19]; rfl) (by decide +kernel) rfl (fun ls hl => ?_)
        refine lv_goto (tgt := 4) hx hb dX13_isNamed_68 (by decide +kernel) ?_
        exact ih (z_19, z_18) ls ⟨lv_sub hl [0, 1, 2, 3] rfl, ⟨(by subst_vars; (try dsimp only); rw [inc1 (i := yy) (n := 1000) (by omega) (by decide +kernel)]; omega), hBz_18⟩⟩ (by subst_vars; (try dsimp only); rw [inc1 (i := yy) (n := 1000) (by omega) (by decide +kernel)]; omega)
      · rw [fa_eq] at c_17
        refine lv_aload_n hx hb dX13_isNamed_35 rfl (lv_at hl 2 rfl) ?_
        refine va_get (D := D) (ci := 10) (v := .ref h1) (C := RX13) (T := TX13) (N := 45) hx hb hts in_X13_isNamed_X13 hown hE.1 hP 0 rfl rfl 8 (by decide +kernel) (hts (.fieldLink RX13 28 "ClauseBookModel" "kind" "[I") (List.mem_of_getElem? (i := 2) rfl)) (fun _ h9 => h9) e0_8 dX13_isNamed_36 ?_
        refine lv_iload_n hx hb dX13_isNamed_39 rfl (lv_at hl 0 rfl) ?_
        refine va_iald hx hb hE.1 hP 1 0 rfl rfl (by rw [vp_in_iff]; first | omega | (subst_vars; omega)) dX13_isNamed_40 ?_
        refine lv_topi (fun z_20 ez_20 => ?_)
        have hkz_20 : 0 ≤ z_20.toInt ∧ z_20.toInt ≤ 12 := by rw [ez_20]; exact (hokR _ (in24 (x := yy) (by omega)).1).1
        refine vp_callSi (W.runS (As := [.int z_20]) (rest := [.int is]) ⟨hx, hb, hml, hown, hts⟩ (c_X13_names l D T z_20 (by omega)) (va_cwS 1 hts gX13_isNamed_X13_names rfl rfl rfl hs_X13_names ⟨Nat.le_of_ble_eq_true rfl, Nat.le_of_ble_eq_true rfl⟩) (pR_S hP hE [] rfl) rfl rfl hl.1 rfl (lv_room (Nat.le_of_ble_eq_true rfl)) dX13_isNamed_41 ⟨Nat.le_of_ble_eq_true rfl, Nat.le_of_ble_eq_true rfl⟩) (fun r_21 hr_21 => ?_)
        refine lv_iconst (v := 1) hx hb dX13_isNamed_44 (by decide +kernel) ?_
        refine lv_icmp_le (tgt := 62) hx hb dX13_isNamed_45 (by decide +kernel) (fun c_22 => ?_) (fun c_22 => ?_)
        · rw [fa_le] at c_22
          try rw [ti_1] at c_22
          refine lv_iconst (v := 0) hx hb dX13_isNamed_62 (by decide +kernel) ?_
          refine lv_ior hx hb dX13_isNamed_63 ?_
          refine lv_topi (fun z_23 ez_23 => ?_)
          have hBz_23 : isB z_23 := by rw [ez_23]; exact isB.or hBi isB0
          refine lv_istore_n (lv' := [(2, .int z_23), (3, .int yy), (0, .ref h0), (1, .int x1)]) hx hb dX13_isNamed_64 rfl hl (by decide +kernel) rfl (fun ls hl => ?_)
          obtain ⟨z_24, ez_24⟩ : ∃ y : Int32, y = yy + 1 := ⟨_, rfl⟩
          refine lv_iinc (v := z_24) (lv' := [(3, .int z_24), (2, .int z_23), (0, .ref h0), (1, .int x1)]) hx hb dX13_isNamed_65 hl (k := 1) rfl (by rw [ez_24]; rfl) (by decide +kernel) rfl (fun ls hl => ?_)
          refine lv_goto (tgt := 4) hx hb dX13_isNamed_68 (by decide +kernel) ?_
          exact ih (z_24, z_23) ls ⟨lv_sub hl [0, 1, 2, 3] rfl, ⟨(by subst_vars; (try dsimp only); rw [inc1 (i := yy) (n := 1000) (by omega) (by decide +kernel)]; omega), hBz_23⟩⟩ (by subst_vars; (try dsimp only); rw [inc1 (i := yy) (n := 1000) (by omega) (by decide +kernel)]; omega)
        · rw [fa_le] at c_22
          try rw [ti_1] at c_22
          refine lv_aload_n hx hb dX13_isNamed_48 rfl (lv_at hl 2 rfl) ?_
          refine va_get (D := D) (ci := 10) (v := .ref h3) (C := RX13) (T := TX13) (N := 45) hx hb hts in_X13_isNamed_X13 hown hE.1 hP 0 rfl rfl 11 (by decide +kernel) (hts (.fieldLink RX13 38 "ClauseBookModel" "two" "[I") (List.mem_of_getElem? (i := 4) rfl)) (fun _ h9 => h9) e0_11 dX13_isNamed_49 ?_
          refine lv_iload_n hx hb dX13_isNamed_52 rfl (lv_at hl 0 rfl) ?_
          refine va_iald hx hb hE.1 hP 3 0 rfl rfl (by rw [vp_in_iff]; first | omega | (subst_vars; omega)) dX13_isNamed_53 ?_
          refine lv_topi (fun z_25 ez_25 => ?_)
          refine lv_iload_n hx hb dX13_isNamed_54 rfl (lv_at hl 3 rfl) ?_
          refine lv_icmp_ne (tgt := 62) hx hb dX13_isNamed_55 (by decide +kernel) (fun c_26 => ?_) (fun c_26 => ?_)
          · rw [fa_eq] at c_26
            refine lv_iconst (v := 0) hx hb dX13_isNamed_62 (by decide +kernel) ?_
            refine lv_ior hx hb dX13_isNamed_63 ?_
            refine lv_topi (fun z_27 ez_27 => ?_)
            have hBz_27 : isB z_27 := by rw [ez_27]; exact isB.or hBi isB0
            refine lv_istore_n (lv' := [(2, .int z_27), (3, .int yy), (0, .ref h0), (1, .int x1)]) hx hb dX13_isNamed_64 rfl hl (by decide +kernel) rfl (fun ls hl => ?_)
            obtain ⟨z_28, ez_28⟩ : ∃ y : Int32, y = yy + 1 := ⟨_, rfl⟩
            refine lv_iinc (v := z_28) (lv' := [(3, .int z_28), (2, .int z_27), (0, .ref h0), (1, .int x1)]) hx hb dX13_isNamed_65 hl (k := 1) rfl (by rw [ez_28]; rfl) (by decide +kernel) rfl (fun ls hl => ?_)
            refine lv_goto (tgt := 4) hx hb dX13_isNamed_68 (by decide +kernel) ?_
            exact ih (z_28, z_27) ls ⟨lv_sub hl [0, 1, 2, 3] rfl, ⟨(by subst_vars; (try dsimp only); rw [inc1 (i := yy) (n := 1000) (by omega) (by decide +kernel)]; omega), hBz_27⟩⟩ (by subst_vars; (try dsimp only); rw [inc1 (i := yy) (n := 1000) (by omega) (by decide +kernel)]; omega)
          · rw [fa_eq] at c_26
            refine lv_iconst (v := 1) hx hb dX13_isNamed_58 (by decide +kernel) ?_
            refine lv_goto (tgt := 63) hx hb dX13_isNamed_59 (by decide +kernel) ?_
            refine lv_ior hx hb dX13_isNamed_63 ?_
            refine lv_topi (fun z_29 ez_29 => ?_)
            have hBz_29 : isB z_29 := by rw [ez_29]; exact isB.or hBi isB1
            refine lv_istore_n (lv' := [(2, .int z_29), (3, .int yy), (0, .ref h0), (1, .int x1)]) hx hb dX13_isNamed_64 rfl hl (by decide +kernel) rfl (fun ls hl => ?_)
            obtain ⟨z_30, ez_30⟩ : ∃ y : Int32, y = yy + 1 := ⟨_, rfl⟩
            refine lv_iinc (v := z_30) (lv' := [(3, .int z_30), (2, .int z_29), (0, .ref h0), (1, .int x1)]) hx hb dX13_isNamed_65 hl (k := 1) rfl (by rw [ez_30]; rfl) (by decide +kernel) rfl (fun ls hl => ?_)
            refine lv_goto (tgt := 4) hx hb dX13_isNamed_68 (by decide +kernel) ?_
            exact ih (z_30, z_29) ls ⟨lv_sub hl [0, 1, 2, 3] rfl, ⟨(by subst_vars; (try dsimp only); rw [inc1 (i := yy) (n := 1000) (by omega) (by decide +kernel)]; omega), hBz_29⟩⟩ (by subst_vars; (try dsimp only); rw [inc1 (i := yy) (n := 1000) (by omega) (by decide +kernel)]; omega)
theorem dX13_count_0 : decode cX13_count 0 = .ok (.iconst 0, 1) := by decide +kernel
theorem dX13_count_1 : decode cX13_count 1 = .ok (.istore_n 2, 1) := by decide +kernel
theorem dX13_count_10 : decode cX13_count 10 = .ok (.getfield 205, 3) := by decide +kernel
theorem dX13_count_100 : decode cX13_count 100 = .ok (.goto (-58), 3) := by decide +kernel
theorem dX13_count_103 : decode cX13_count 103 = .ok (.iload_n 1, 1) := by decide +kernel
theorem dX13_count_104 : decode cX13_count 104 = .ok (.ifCond .ne 10, 3) := by decide +kernel
theorem dX13_count_107 : decode cX13_count 107 = .ok (.aload_n 0, 1) := by decide +kernel
theorem dX13_count_108 : decode cX13_count 108 = .ok (.getfield 205, 3) := by decide +kernel
theorem dX13_count_111 : decode cX13_count 111 = .ok (.goto 35, 3) := by decide +kernel
theorem dX13_count_114 : decode cX13_count 114 = .ok (.iload_n 1, 1) := by decide +kernel
theorem dX13_count_115 : decode cX13_count 115 = .ok (.iconst 1, 1) := by decide +kernel
theorem dX13_count_116 : decode cX13_count 116 = .ok (.if_icmp .ne 10, 3) := by decide +kernel
theorem dX13_count_119 : decode cX13_count 119 = .ok (.aload_n 0, 1) := by decide +kernel
theorem dX13_count_120 : decode cX13_count 120 = .ok (.getfield 181, 3) := by decide +kernel
theorem dX13_count_123 : decode cX13_count 123 = .ok (.goto 23, 3) := by decide +kernel
theorem dX13_count_126 : decode cX13_count 126 = .ok (.iload_n 1, 1) := by decide +kernel
theorem dX13_count_127 : decode cX13_count 127 = .ok (.iconst 2, 1) := by decide +kernel
theorem dX13_count_128 : decode cX13_count 128 = .ok (.if_icmp .ne 7, 3) := by decide +kernel
theorem dX13_count_13 : decode cX13_count 13 = .ok (.if_icmp .ge 26, 3) := by decide +kernel
theorem dX13_count_131 : decode cX13_count 131 = .ok (.iload_n 2, 1) := by decide +kernel
theorem dX13_count_132 : decode cX13_count 132 = .ok (.goto 14, 3) := by decide +kernel
theorem dX13_count_135 : decode cX13_count 135 = .ok (.iload_n 1, 1) := by decide +kernel
theorem dX13_count_136 : decode cX13_count 136 = .ok (.iconst 3, 1) := by decide +kernel
theorem dX13_count_137 : decode cX13_count 137 = .ok (.if_icmp .ne 7, 3) := by decide +kernel
theorem dX13_count_140 : decode cX13_count 140 = .ok (.iload_n 3, 1) := by decide +kernel
theorem dX13_count_141 : decode cX13_count 141 = .ok (.goto 5, 3) := by decide +kernel
theorem dX13_count_144 : decode cX13_count 144 = .ok (.bipush (-2), 2) := by decide +kernel
theorem dX13_count_146 : decode cX13_count 146 = .ok (.ireturn, 1) := by decide +kernel
theorem dX13_count_16 : decode cX13_count 16 = .ok (.iload_n 2, 1) := by decide +kernel
theorem dX13_count_17 : decode cX13_count 17 = .ok (.aload_n 0, 1) := by decide +kernel
theorem dX13_count_18 : decode cX13_count 18 = .ok (.iload 4, 2) := by decide +kernel
theorem dX13_count_2 : decode cX13_count 2 = .ok (.iconst 0, 1) := by decide +kernel
theorem dX13_count_20 : decode cX13_count 20 = .ok (.invokevirtual 443, 3) := by decide +kernel
theorem dX13_count_23 : decode cX13_count 23 = .ok (.ifCond .eq 7, 3) := by decide +kernel
theorem dX13_count_26 : decode cX13_count 26 = .ok (.iconst 0, 1) := by decide +kernel
theorem dX13_count_27 : decode cX13_count 27 = .ok (.goto 4, 3) := by decide +kernel
theorem dX13_count_3 : decode cX13_count 3 = .ok (.istore_n 3, 1) := by decide +kernel
theorem dX13_count_30 : decode cX13_count 30 = .ok (.iconst 1, 1) := by decide +kernel
theorem dX13_count_31 : decode cX13_count 31 = .ok (.iadd, 1) := by decide +kernel
theorem dX13_count_32 : decode cX13_count 32 = .ok (.istore_n 2, 1) := by decide +kernel
theorem dX13_count_33 : decode cX13_count 33 = .ok (.iinc 4 1, 3) := by decide +kernel
theorem dX13_count_36 : decode cX13_count 36 = .ok (.goto (-29), 3) := by decide +kernel
theorem dX13_count_39 : decode cX13_count 39 = .ok (.iconst 0, 1) := by decide +kernel
theorem dX13_count_4 : decode cX13_count 4 = .ok (.iconst 0, 1) := by decide +kernel
theorem dX13_count_40 : decode cX13_count 40 = .ok (.istore 4, 2) := by decide +kernel
theorem dX13_count_42 : decode cX13_count 42 = .ok (.iload 4, 2) := by decide +kernel
theorem dX13_count_44 : decode cX13_count 44 = .ok (.iconst 3, 1) := by decide +kernel
theorem dX13_count_45 : decode cX13_count 45 = .ok (.if_icmp .ge 58, 3) := by decide +kernel
theorem dX13_count_48 : decode cX13_count 48 = .ok (.iconst 0, 1) := by decide +kernel
theorem dX13_count_49 : decode cX13_count 49 = .ok (.istore 5, 2) := by decide +kernel
theorem dX13_count_5 : decode cX13_count 5 = .ok (.istore 4, 2) := by decide +kernel
theorem dX13_count_51 : decode cX13_count 51 = .ok (.iload 5, 2) := by decide +kernel
theorem dX13_count_53 : decode cX13_count 53 = .ok (.aload_n 0, 1) := by decide +kernel
theorem dX13_count_54 : decode cX13_count 54 = .ok (.getfield 44, 3) := by decide +kernel
theorem dX13_count_57 : decode cX13_count 57 = .ok (.iload 4, 2) := by decide +kernel
theorem dX13_count_59 : decode cX13_count 59 = .ok (.iaload, 1) := by decide +kernel
theorem dX13_count_60 : decode cX13_count 60 = .ok (.if_icmp .ge 37, 3) := by decide +kernel
theorem dX13_count_63 : decode cX13_count 63 = .ok (.iload_n 3, 1) := by decide +kernel
theorem dX13_count_64 : decode cX13_count 64 = .ok (.aload_n 0, 1) := by decide +kernel
theorem dX13_count_65 : decode cX13_count 65 = .ok (.aload_n 0, 1) := by decide +kernel
theorem dX13_count_66 : decode cX13_count 66 = .ok (.getfield 41, 3) := by decide +kernel
theorem dX13_count_69 : decode cX13_count 69 = .ok (.bipush 12, 2) := by decide +kernel
theorem dX13_count_7 : decode cX13_count 7 = .ok (.iload 4, 2) := by decide +kernel
theorem dX13_count_71 : decode cX13_count 71 = .ok (.iload 4, 2) := by decide +kernel
theorem dX13_count_73 : decode cX13_count 73 = .ok (.imul, 1) := by decide +kernel
theorem dX13_count_74 : decode cX13_count 74 = .ok (.iload 5, 2) := by decide +kernel
theorem dX13_count_76 : decode cX13_count 76 = .ok (.iadd, 1) := by decide +kernel
theorem dX13_count_77 : decode cX13_count 77 = .ok (.iaload, 1) := by decide +kernel
theorem dX13_count_78 : decode cX13_count 78 = .ok (.invokevirtual 233, 3) := by decide +kernel
theorem dX13_count_81 : decode cX13_count 81 = .ok (.ifCond .eq 7, 3) := by decide +kernel
theorem dX13_count_84 : decode cX13_count 84 = .ok (.iconst 1, 1) := by decide +kernel
theorem dX13_count_85 : decode cX13_count 85 = .ok (.goto 4, 3) := by decide +kernel
theorem dX13_count_88 : decode cX13_count 88 = .ok (.iconst 0, 1) := by decide +kernel
theorem dX13_count_89 : decode cX13_count 89 = .ok (.iadd, 1) := by decide +kernel
theorem dX13_count_9 : decode cX13_count 9 = .ok (.aload_n 0, 1) := by decide +kernel
theorem dX13_count_90 : decode cX13_count 90 = .ok (.istore_n 3, 1) := by decide +kernel
theorem dX13_count_91 : decode cX13_count 91 = .ok (.iinc 5 1, 3) := by decide +kernel
theorem dX13_count_94 : decode cX13_count 94 = .ok (.goto (-43), 3) := by decide +kernel
theorem dX13_count_97 : decode cX13_count 97 = .ok (.iinc 4 1, 3) := by decide +kernel
set_option maxRecDepth 20000 in
theorem ggX13_count_X13_isClause : GoodIn wsX13_count wsX13_isClause := goodIn_r _ [19, 1, 20, 21, 8, 22, 23, 24, 25, 26, 27, 28, 29, 30, 31, 32, 33, 34, 35, 36, 37, 38, 39, 40, 41, 42, 43, 44, 45, 46, 47, 48, 49, 50, 51, 52, 53, 54, 55, 56, 57, 58, 59, 60, 61, 62, 63, 64, 65, 66, 67] rfl (by decide +kernel)
set_option maxRecDepth 20000 in
theorem ggX13_count_X13_isNamed : GoodIn wsX13_count wsX13_isNamed := goodIn_r _ [9, 1, 10, 11, 12, 13, 14, 8, 15, 23, 24, 25, 26, 27, 28, 29, 30, 31, 32, 33, 34, 35, 36, 37, 38, 39, 40, 41, 42, 43, 44, 45, 46, 47, 48, 49, 50, 51, 52, 53, 54, 55, 56, 57, 58, 59, 60, 61, 62, 63, 64, 65, 66, 67] rfl (by decide +kernel)
set_option maxRecDepth 20000 in
theorem gX13_count_X13_isClause : GoodIn wsX13_count (wsV RX13 233 RX13 yX13_isClause wsX13_isClause) := goodIn_app (goodIn_r _ [16, 17, 18, 8] rfl (by decide +kernel)) ggX13_count_X13_isClause
set_option maxRecDepth 20000 in
theorem gX13_count_X13_isNamed : GoodIn wsX13_count (wsV RX13 443 RX13 yX13_isNamed wsX13_isNamed) := goodIn_app (goodIn_r _ [5, 6, 7, 8] rfl (by decide +kernel)) ggX13_count_X13_isNamed
theorem hv_X13_isNamed : yX13_isNamed.cls = RX13 ∧ yX13_isNamed.cls ≠ "java/lang/invoke/MethodHandle" ∧ yX13_isNamed.cls ≠ "java/lang/invoke/VarHandle" ∧ (parseMethodDescriptor yX13_isNamed.desc).map (fun d => d.parameters.length) = some 1 := by decide +kernel
set_option maxRecDepth 20000 in
theorem in_X13_count_X13 : ∀ w ∈ wsX130, w ∈ wsX13_count := sub_r [23, 24, 25, 26, 27, 28, 29, 30, 31, 32, 33, 34, 35, 36, 37, 38, 39, 40, 41, 42, 43, 44, 45, 46, 47, 48, 49, 50, 51, 52, 53, 54, 55, 56, 57, 58, 59, 60, 61, 62, 63, 64, 65, 66, 67] rfl
set_option maxHeartbeats 4000000 in
set_option maxRecDepth 100000 in
theorem c_X13_count (l : Launch) (D : va_G) (T : Nat → ClassId) (sz : Nat) (h0 : Nat) (q : Nat → Int32) (v : Int64) (w : Int64) (a : Nat → Nat) (f8 : Nat → Int32) (f10 : Nat → Int32) (f11 : Nat → Int32) (f12 : Nat → Int32) (f13 : Nat → Int32) (x1 : Int32) (hm : 0 ≤ (q 7).toInt ∧ (q 7).toInt ≤ 24) (hokR : okR f8 f10 f11) (hbg : ∀ k : Nat, k < 3 → 0 ≤ (f13 k).toInt ∧ (f13 k).toInt ≤ 12) : Met l yX13_count wsX13_count ({ frames := 2, cells := 0, slots := 0, locals := 46 }) (pW [.ref h0, .int x1] D T [(h0, .inr (10, (Value.int (q 0) :: Value.int (q 1) :: Value.int (q 2) :: Value.int (q 3) :: Value.int (q 4) :: Value.int (q 5) :: Value.int (q 6) :: Value.int (q 7) :: Value.ref (a 8) :: Value.ref (a 9) :: Value.ref (a 10) :: Value.ref (a 11) :: Value.ref (a 12) :: Value.ref (a 13) :: Value.int (q 14) :: Value.long v :: Value.long w :: Value.ref (a 17) :: Value.ref (a 18) :: Value.ref (a 19) :: Value.ref (a 20) :: Value.ref (a 21) :: Value.ref (a 22) :: Value.ref (a 23) :: Value.int (q 24) :: Value.ref (a 25) :: Value.int (q 26) :: Value.ref (a 27) :: Value.int (q 28) :: Value.int (q 29) :: Value.int (q 30) :: Value.int (q 31) :: Value.int (q 32) :: Value.int (q 33) :: Value.ref (a 34) :: Value.ref (a 35) :: Value.ref (a 36) :: Value.ref (a 37) :: Value.ref (a 38) :: Value.ref (a 39) :: Value.ref (a 40) :: Value.int (q 41) :: Value.ref (a 42) :: Value.int (q 43) :: Value.int (q 44) :: []))), ((a 8), .inl (T 0, 24, .inl f8)), ((a 10), .inl (T 0, 24, .inl f10)), ((a 11), .inl (T 0, 24, .inl f11)), ((a 12), .inl (T 0, 36, .inl f12)), ((a 13), .inl (T 0, 3, .inl f13))] sz) (va_Qi (fun (r : Int32) (u : Unit) => True) (bW D (va_A [(h0, .inr (10, (Value.int (q 0) :: Value.int (q 1) :: Value.int (q 2) :: Value.int (q 3) :: Value.int (q 4) :: Value.int (q 5) :: Value.int (q 6) :: Value.int (q 7) :: Value.ref (a 8) :: Value.ref (a 9) :: Value.ref (a 10) :: Value.ref (a 11) :: Value.ref (a 12) :: Value.ref (a 13) :: Value.int (q 14) :: Value.long v :: Value.long w :: Value.ref (a 17) :: Value.ref (a 18) :: Value.ref (a 19) :: Value.ref (a 20) :: Value.ref (a 21) :: Value.ref (a 22) :: Value.ref (a 23) :: Value.int (q 24) :: Value.ref (a 25) :: Value.int (q 26) :: Value.ref (a 27) :: Value.int (q 28) :: Value.int (q 29) :: Value.int (q 30) :: Value.int (q 31) :: Value.int (q 32) :: Value.int (q 33) :: Value.ref (a 34) :: Value.ref (a 35) :: Value.ref (a 36) :: Value.ref (a 37) :: Value.ref (a 38) :: Value.ref (a 39) :: Value.ref (a 40) :: Value.int (q 41) :: Value.ref (a 42) :: Value.int (q 43) :: Value.int (q 44) :: []))), ((a 8), .inl (T 0, 24, .inl f8)), ((a 10), .inl (T 0, 24, .inl f10)), ((a 11), .inl (T 0, 24, .inl f11)), ((a 12), .inl (T 0, 36, .inl f12)), ((a 13), .inl (T 0, 3, .inl f13))] sz) (fun (u : Unit) => [(h0, .inr (10, (Value.int (q 0) :: Value.int (q 1) :: Value.int (q 2) :: Value.int (q 3) :: Value.int (q 4) :: Value.int (q 5) :: Value.int (q 6) :: Value.int (q 7) :: Value.ref (a 8) :: Value.ref (a 9) :: Value.ref (a 10) :: Value.ref (a 11) :: Value.ref (a 12) :: Value.ref (a 13) :: Value.int (q 14) :: Value.long v :: Value.long w :: Value.ref (a 17) :: Value.ref (a 18) :: Value.ref (a 19) :: Value.ref (a 20) :: Value.ref (a 21) :: Value.ref (a 22) :: Value.ref (a 23) :: Value.int (q 24) :: Value.ref (a 25) :: Value.int (q 26) :: Value.ref (a 27) :: Value.int (q 28) :: Value.int (q 29) :: Value.int (q 30) :: Value.int (q 31) :: Value.int (q 32) :: Value.int (q 33) :: Value.ref (a 34) :: Value.ref (a 35) :: Value.ref (a 36) :: Value.ref (a 37) :: Value.ref (a 38) :: Value.ref (a 39) :: Value.ref (a 40) :: Value.int (q 41) :: Value.ref (a 42) :: Value.int (q 43) :: Value.int (q 44) :: []))), ((a 8), .inl (T 0, 24, .inl f8)), ((a 10), .inl (T 0, 24, .inl f10)), ((a 11), .inl (T 0, 24, .inl f11)), ((a 12), .inl (T 0, 36, .inl f12)), ((a 13), .inl (T 0, 3, .inl f13))])) (va_A [(h0, .inr (10, (Value.int (q 0) :: Value.int (q 1) :: Value.int (q 2) :: Value.int (q 3) :: Value.int (q 4) :: Value.int (q 5) :: Value.int (q 6) :: Value.int (q 7) :: Value.ref (a 8) :: Value.ref (a 9) :: Value.ref (a 10) :: Value.ref (a 11) :: Value.ref (a 12) :: Value.ref (a 13) :: Value.int (q 14) :: Value.long v :: Value.long w :: Value.ref (a 17) :: Value.ref (a 18) :: Value.ref (a 19) :: Value.ref (a 20) :: Value.ref (a 21) :: Value.ref (a 22) :: Value.ref (a 23) :: Value.int (q 24) :: Value.ref (a 25) :: Value.int (q 26) :: Value.ref (a 27) :: Value.int (q 28) :: Value.int (q 29) :: Value.int (q 30) :: Value.int (q 31) :: Value.int (q 32) :: Value.int (q 33) :: Value.ref (a 34) :: Value.ref (a 35) :: Value.ref (a 36) :: Value.ref (a 37) :: Value.ref (a 38) :: Value.ref (a 39) :: Value.ref (a 40) :: Value.int (q 41) :: Value.ref (a 42) :: Value.int (q 43) :: Value.int (q 44) :: []))), ((a 8), .inl (T 0, 24, .inl f8)), ((a 10), .inl (T 0, 24, .inl f10)), ((a 11), .inl (T 0, 24, .inl f11)), ((a 12), .inl (T 0, 36, .inl f12)), ((a 13), .inl (T 0, 3, .inl f13))] sz)) 0 0 (va_A [(h0, .inr (10, (Value.int (q 0) :: Value.int (q 1) :: Value.int (q 2) :: Value.int (q 3) :: Value.int (q 4) :: Value.int (q 5) :: Value.int (q 6) :: Value.int (q 7) :: Value.ref (a 8) :: Value.ref (a 9) :: Value.ref (a 10) :: Value.ref (a 11) :: Value.ref (a 12) :: Value.ref (a 13) :: Value.int (q 14) :: Value.long v :: Value.long w :: Value.ref (a 17) :: Value.ref (a 18) :: Value.ref (a 19) :: Value.ref (a 20) :: Value.ref (a 21) :: Value.ref (a 22) :: Value.ref (a 23) :: Value.int (q 24) :: Value.ref (a 25) :: Value.int (q 26) :: Value.ref (a 27) :: Value.int (q 28) :: Value.int (q 29) :: Value.int (q 30) :: Value.int (q 31) :: Value.int (q 32) :: Value.int (q 33) :: Value.ref (a 34) :: Value.ref (a 35) :: Value.ref (a 36) :: Value.ref (a 37) :: Value.ref (a 38) :: Value.ref (a 39) :: Value.ref (a 40) :: Value.int (q 41) :: Value.ref (a 42) :: Value.int (q 43) :: Value.int (q 44) :: []))), ((a 8), .inl (T 0, 24, .inl f8)), ((a 10), .inl (T 0, 24, .inl f10)), ((a 11), .inl (T 0, 24, .inl f11)), ((a 12), .inl (T 0, 36, .inl f12)), ((a 13), .inl (T 0, 3, .inl f13))] sz) := by
  refine Met.ofW (cc := cX13_count) (maxL := 6) (ret := (some .int)) (by decide +kernel) rfl ?_
  intro p e s m args below meth c s₁ B hml hv
  obtain ⟨rfl, hsz, hP, hE, hD0⟩ := hv
  have hx := B.exec
  have hb := B.bytes
  have hr := B.returns
  have hts := atoms_spec (ws := wsX13_count) B.pre
  have hown : s.vm.findClass RX13 = some m.cls := findClass_of_methodNamed B.named
  have hlocks := B.notSynchronized
  subst hsz
  have hD := hD0.self (sz := s.heap.size)
  generalize hAe : va_A [(h0, .inr (10, (Value.int (q 0) :: Value.int (q 1) :: Value.int (q 2) :: Value.int (q 3) :: Value.int (q 4) :: Value.int (q 5) :: Value.int (q 6) :: Value.int (q 7) :: Value.ref (a 8) :: Value.ref (a 9) :: Value.ref (a 10) :: Value.ref (a 11) :: Value.ref (a 12) :: Value.ref (a 13) :: Value.int (q 14) :: Value.long v :: Value.long w :: Value.ref (a 17) :: Value.ref (a 18) :: Value.ref (a 19) :: Value.ref (a 20) :: Value.ref (a 21) :: Value.ref (a 22) :: Value.ref (a 23) :: Value.int (q 24) :: Value.ref (a 25) :: Value.int (q 26) :: Value.ref (a 27) :: Value.int (q 28) :: Value.int (q 29) :: Value.int (q 30) :: Value.int (q 31) :: Value.int (q 32) :: Value.int (q 33) :: Value.ref (a 34) :: Value.ref (a 35) :: Value.ref (a 36) :: Value.ref (a 37) :: Value.ref (a 38) :: Value.ref (a 39) :: Value.ref (a 40) :: Value.int (q 41) :: Value.ref (a 42) :: Value.int (q 43) :: Value.int (q 44) :: []))), ((a 8), .inl (T 0, 24, .inl f8)), ((a 10), .inl (T 0, 24, .inl f10)), ((a 11), .inl (T 0, 24, .inl f11)), ((a 12), .inl (T 0, 36, .inl f12)), ((a 13), .inl (T 0, 3, .inl f13))] s.heap.size = A at hD ⊢
  have hA : ∀ q : Nat, s.heap.size ≤ q → A q := fun q h => by rw [← hAe]; exact Or.inr h
  have hS : va_S A s.heap s.heap [] := va_S.rf
  have hP : va_P D vwCl [(h0, .inr (10, (Value.int (q 0) :: Value.int (q 1) :: Value.int (q 2) :: Value.int (q 3) :: Value.int (q 4) :: Value.int (q 5) :: Value.int (q 6) :: Value.int (q 7) :: Value.ref (a 8) :: Value.ref (a 9) :: Value.ref (a 10) :: Value.ref (a 11) :: Value.ref (a 12) :: Value.ref (a 13) :: Value.int (q 14) :: Value.long v :: Value.long w :: Value.ref (a 17) :: Value.ref (a 18) :: Value.ref (a 19) :: Value.ref (a 20) :: Value.ref (a 21) :: Value.ref (a 22) :: Value.ref (a 23) :: Value.int (q 24) :: Value.ref (a 25) :: Value.int (q 26) :: Value.ref (a 27) :: Value.int (q 28) :: Value.int (q 29) :: Value.int (q 30) :: Value.int (q 31) :: Value.int (q 32) :: Value.int (q 33) :: Value.ref (a 34) :: Value.ref (a 35) :: Value.ref (a 36) :: Value.ref (a 37) :: Value.ref (a 38) :: Value.ref (a 39) :: Value.ref (a 40) :: Value.int (q 41) :: Value.ref (a 42) :: Value.int (q 43) :: Value.int (q 44) :: []))), ((a 8), .inl (T 0, 24, .inl f8)), ((a 10), .inl (T 0, 24, .inl f10)), ((a 11), .inl (T 0, 24, .inl f11)), ((a 12), .inl (T 0, 36, .inl f12)), ((a 13), .inl (T 0, 3, .inl f13))] s.heap := hP
  have hl := lv_entry ([.ref h0, .int x1]) (n := 6) (Nat.le_of_ble_eq_true rfl)
  rw [lg_entry_eq]
  generalize (lg_sl ([.ref h0, .int x1]) ++ List.replicate (6 - (lg_sl ([.ref h0, .int x1])).length) Slot.unset).toArray = ls at hl ⊢
  have hl : lv_has ls 6 [(0, .ref h0), (1, .int x1)] := hl
  clear hD0
  refine lv_iconst (v := 0) hx hb dX13_count_0 (by decide +kernel) ?_
  refine lv_istore_n (lv' := [(2, .int 0), (0, .ref h0), (1, .int x1)]) hx hb dX13_count_1 rfl hl (by decide +kernel) rfl (fun ls hl => ?_)
  refine lv_iconst (v := 0) hx hb dX13_count_2 (by decide +kernel) ?_
  refine lv_istore_n (lv' := [(3, .int 0), (2, .int 0), (0, .ref h0), (1, .int x1)]) hx hb dX13_count_3 rfl hl (by decide +kernel) rfl (fun ls hl => ?_)
  refine lv_iconst (v := 0) hx hb dX13_count_4 (by decide +kernel) ?_
  refine lv_istore (lv' := [(4, .int 0), (3, .int 0), (2, .int 0), (0, .ref h0), (1, .int x1)]) hx hb dX13_count_5 hl (by decide +kernel) rfl (fun ls hl => ?_)
  refine loopR (σ := (Int32) × (Int32)) (fun x9 ls => lv_has ls 6 [(4, .int x9.1), (3, .int 0), (2, .int x9.2), (0, .ref h0), (1, .int x1)] ∧ (0 ≤ x9.1.toInt)) (fun x9 => (24 - x9.1.toInt).toNat) (fun x9 ls hI ih => ?_) (0, 0) ls ⟨lv_sub hl [0, 1, 2, 3, 4] rfl, (by (try dsimp only); decide)⟩
  obtain ⟨xx, al⟩ := x9
  obtain ⟨hl, hinv⟩ := hI
  have hl : lv_has ls 6 [(4, .int xx), (3, .int 0), (2, .int al), (0, .ref h0), (1, .int x1)] := hl
  have hinv : 0 ≤ xx.toInt := hinv
  refine lv_iload hx hb dX13_count_7 (lv_at hl 0 rfl) ?_
  refine lv_aload_n hx hb dX13_count_9 rfl (lv_at hl 3 rfl) ?_
  refine va_get (D := D) (ci := 10) (v := .int (q 7)) (C := RX13) (T := TX13) (N := 45) hx hb hts in_X13_count_X13 hown hE.1 hP 0 rfl rfl 7 (by decide +kernel) (hts (.fieldLink RX13 205 "ClauseBookModel" "many" "I") (List.mem_of_getElem? (i := 1) rfl)) (fun _ h9 => h9) rfl dX13_count_10 ?_
  refine lv_icmp_ge (tgt := 39) hx hb dX13_count_13 (by decide +kernel) (fun c_1 => ?_) (fun c_1 => ?_)
  · rw [fa_le] at c_1
    refine lv_iconst (v := 0) hx hb dX13_count_39 (by decide +kernel) ?_
    refine lv_istore (lv' := [(4, .int 0), (3, .int 0), (2, .int al), (0, .ref h0), (1, .int x1)]) hx hb dX13_count_40 hl (by decide +kernel) rfl (fun ls hl => ?_)
    refine loopR (σ := (Int32) × (Int32)) (fun x9 ls => lv_has ls 6 [(4, .int x9.1), (3, .int x9.2), (2, .int al), (0, .ref h0), (1, .int x1)] ∧ (0 ≤ x9.1.toInt)) (fun x9 => (3 - x9.1.toInt).toNat) (fun x9 ls hI iho => ?_) (0, 0) ls ⟨lv_sub hl [0, 1, 2, 3, 4] rfl, (by (try dsimp only); decide)⟩
    obtain ⟨bb, li⟩ := x9
    obtain ⟨hl, hinv⟩ := hI
    have hl : lv_has ls 6 [(4, .int bb), (3, .int li), (2, .int al), (0, .ref h0), (1, .int x1)] := hl
    have hinv : 0 ≤ bb.toInt := hinv
    refine lv_iload hx hb dX13_count_42 (lv_at hl 0 rfl) ?_
    refine lv_iconst (v := 3) hx hb dX13_count_44 (by decide +kernel) ?_
    refine lv_icmp_ge (tgt := 103) hx hb dX13_count_45 (by decide +kernel) (fun c_2 => ?_) (fun c_2 => ?_)
    · rw [fa_le] at c_2
      try rw [ti_3] at c_2
      refine lv_iload_n hx hb dX13_count_103 rfl (lv_at hl 4 rfl) ?_
      refine lv_if_ne (tgt := 114) hx hb dX13_count_104 (by decide +kernel) (fun c_3 => ?_) (fun c_3 => ?_)
      · rw [fa_eq] at c_3
        try rw [ti_0] at c_3
        refine lv_iload_n hx hb dX13_count_114 rfl (lv_at hl 4 rfl) ?_
        refine lv_iconst (v := 1) hx hb dX13_count_115 (by decide +kernel) ?_
        refine lv_icmp_ne (tgt := 126) hx hb dX13_count_116 (by decide +kernel) (fun c_4 => ?_) (fun c_4 => ?_)
        · rw [fa_eq] at c_4
          try rw [ti_1] at c_4
          refine lv_iload_n hx hb dX13_count_126 rfl (lv_at hl 4 rfl) ?_
          refine lv_iconst (v := 2) hx hb dX13_count_127 (by decide +kernel) ?_
          refine lv_icmp_ne (tgt := 135) hx hb dX13_count_128 (by decide +kernel) (fun c_5 => ?_) (fun c_5 => ?_)
          · rw [fa_eq] at c_5
            try rw [ti_2] at c_5
            refine lv_iload_n hx hb dX13_count_135 rfl (lv_at hl 4 rfl) ?_
            refine lv_iconst (v := 3) hx hb dX13_count_136 (by decide +kernel) ?_
            refine lv_icmp_ne (tgt := 144) hx hb dX13_count_137 (by decide +kernel) (fun c_6 => ?_) (fun c_6 => ?_)
            · rw [fa_eq] at c_6
              try rw [ti_3] at c_6
              refine lv_bipush (v := (-2)) hx hb dX13_count_144 (by decide +kernel) ?_
              exact W.iret hx hb hr (fun t ht hW => ⟨⟨_, (), rfl, trivial, by rw [ht]; exact hP.sub [0, 1, 2, 3, 4, 5] rfl, hD.sub [0, 1, 2, 3, 4, 5] (by decide +kernel) rfl⟩, hS.F ht⟩) hS.2.2 dX13_count_146
            · rw [fa_eq] at c_6
              try rw [ti_3] at c_6
              refine lv_iload_n hx hb dX13_count_140 rfl (lv_at hl 1 rfl) ?_
              refine lv_goto (tgt := 146) hx hb dX13_count_141 (by decide +kernel) ?_
              exact W.iret hx hb hr (fun t ht hW => ⟨⟨_, (), rfl, trivial, by rw [ht]; exact hP.sub [0, 1, 2, 3, 4, 5] rfl, hD.sub [0, 1, 2, 3, 4, 5] (by decide +kernel) rfl⟩, hS.F ht⟩) hS.2.2 dX13_count_146
          · rw [fa_eq] at c_5
            try rw [ti_2] at c_5
            refine lv_iload_n hx hb dX13_count_131 rfl (lv_at hl 2 rfl) ?_
            refine lv_goto (tgt := 146) hx hb dX13_count_132 (by decide +kernel) ?_
            exact W.iret hx hb hr (fun t ht hW => ⟨⟨_, (), rfl, trivial, by rw [ht]; exact hP.sub [0, 1, 2, 3, 4, 5] rfl, hD.sub [0, 1, 2, 3, 4, 5] (by decide +kernel) rfl⟩, hS.F ht⟩) hS.2.2 dX13_count_146
        · rw [fa_eq] at c_4
          try rw [ti_1] at c_4
          refine lv_aload_n hx hb dX13_count_119 rfl (lv_at hl 3 rfl) ?_
          refine va_get (D := D) (ci := 10) (v := .int (q 0)) (C := RX13) (T := TX13) (N := 45) hx hb hts in_X13_count_X13 hown hE.1 hP 0 rfl rfl 0 (by decide +kernel) (hts (.fieldLink RX13 181 "ClauseBookModel" "start" "I") (List.mem_of_getElem? (i := 4) rfl)) (fun _ h9 => h9) rfl dX13_count_120 ?_
          refine lv_goto (tgt := 146) hx hb dX13_count_123 (by decide +kernel) ?_
          exact W.iret hx hb hr (fun t ht hW => ⟨⟨_, (), rfl, trivial, by rw [ht]; exact hP.sub [0, 1, 2, 3, 4, 5] rfl, hD.sub [0, 1, 2, 3, 4, 5] (by decide +kernel) rfl⟩, hS.F ht⟩) hS.2.2 dX13_count_146
      · rw [fa_eq] at c_3
        try rw [ti_0] at c_3
        refine lv_aload_n hx hb dX13_count_107 rfl (lv_at hl 3 rfl) ?_
        refine va_get (D := D) (ci := 10) (v := .int (q 7)) (C := RX13) (T := TX13) (N := 45) hx hb hts in_X13_count_X13 hown hE.1 hP 0 rfl rfl 7 (by decide +kernel) (hts (.fieldLink RX13 205 "ClauseBookModel" "many" "I") (List.mem_of_getElem? (i := 1) rfl)) (fun _ h9 => h9) rfl dX13_count_108 ?_
        refine lv_goto (tgt := 146) hx hb dX13_count_111 (by decide +kernel) ?_
        exact W.iret hx hb hr (fun t ht hW => ⟨⟨_, (), rfl, trivial, by rw [ht]; exact hP.sub [0, 1, 2, 3, 4, 5] rfl, hD.sub [0, 1, 2, 3, 4, 5] (by decide +kernel) rfl⟩, hS.F ht⟩) hS.2.2 dX13_count_146
    · rw [fa_le] at c_2
      try rw [ti_3] at c_2
      refine lv_iconst (v := 0) hx hb dX13_count_48 (by decide +kernel) ?_
      refine lv_istore (lv' := [(5, .int 0), (4, .int bb), (3, .int li), (2, .int al), (0, .ref h0), (1, .int x1)]) hx hb dX13_count_49 hl (by decide +kernel) rfl (fun ls hl => ?_)
      refine loopR (σ := (Int32) × (Int32)) (fun x9 ls => lv_has ls 6 [(5, .int x9.1), (4, .int bb), (3, .int x9.2), (2, .int al), (0, .ref h0), (1, .int x1)] ∧ (0 ≤ x9.1.toInt)) (fun x9 => (12 - x9.1.toInt).toNat) (fun x9 ls hI ih => ?_) (0, li) ls ⟨lv_sub hl [0, 1, 2, 3, 4, 5] rfl, (by (try dsimp only); decide)⟩
      obtain ⟨ii, lj⟩ := x9
      obtain ⟨hl, hinv⟩ := hI
      have hl : lv_has ls 6 [(5, .int ii), (4, .int bb), (3, .int lj), (2, .int al), (0, .ref h0), (1, .int x1)] := hl
      have hinv : 0 ≤ ii.toInt := hinv
      have h12bb : (12 * bb).toInt = 12 * bb.toInt := by rw [fb_mulI (by rw [ti_12]; omega) (by rw [ti_12]; omega), ti_12]
      refine lv_iload hx hb dX13_count_51 (lv_at hl 0 rfl) ?_
      refine lv_aload_n hx hb dX13_count_53 rfl (lv_at hl 4 rfl) ?_
      refine va_get (D := D) (ci := 10) (v := .ref (a 13)) (C := RX13) (T := TX13) (N := 45) hx hb hts in_X13_count_X13 hown hE.1 hP 0 rfl rfl 13 (by decide +kernel) (hts (.fieldLink RX13 44 "ClauseBookModel" "bagged" "[I") (List.mem_of_getElem? (i := 2) rfl)) (fun _ h9 => h9) rfl dX13_count_54 ?_
      refine lv_iload hx hb dX13_count_57 (lv_at hl 1 rfl) ?_
      refine va_iald hx hb hE.1 hP 5 0 rfl rfl (by rw [vp_in_iff]; first | omega | (rw [fb_addI (by omega) (by omega)]; omega)) dX13_count_59 ?_
      refine lv_topi (fun z_7 ez_7 => ?_)
      have hbz_7 : 0 ≤ z_7.toInt ∧ z_7.toInt ≤ 12 := by rw [ez_7]; exact hbg _ (tn3 (by omega) (by omega))
      refine lv_icmp_ge (tgt := 97) hx hb dX13_count_60 (by decide +kernel) (fun c_8 => ?_) (fun c_8 => ?_)
      · rw [fa_le] at c_8
        obtain ⟨z_9, ez_9⟩ : ∃ y : Int32, y = bb + 1 := ⟨_, rfl⟩
        refine lv_iinc (v := z_9) (lv' := [(4, .int z_9), (5, .int ii), (3, .int lj), (2, .int al), (0, .ref h0), (1, .int x1)]) hx hb dX13_count_97 hl (k := 1) rfl (by rw [ez_9]; rfl) (by decide +kernel) rfl (fun ls hl => ?_)
        refine lv_goto (tgt := 42) hx hb dX13_count_100 (by decide +kernel) ?_
        exact iho (z_9, lj) ls ⟨lv_sub hl [0, 2, 3, 4, 5] rfl, (by subst_vars; (try dsimp only); rw [inc1 (i := bb) (n := 1000) (by omega) (by decide +kernel)]; omega)⟩ (by subst_vars; (try dsimp only); rw [inc1 (i := bb) (n := 1000) (by omega) (by decide +kernel)]; omega)
      · rw [fa_le] at c_8
        refine lv_iload_n hx hb dX13_count_63 rfl (lv_at hl 2 rfl) ?_
        refine lv_aload_n hx hb dX13_count_64 rfl (lv_at hl 4 rfl) ?_
        refine lv_aload_n hx hb dX13_count_65 rfl (lv_at hl 4 rfl) ?_
        refine va_get (D := D) (ci := 10) (v := .ref (a 12)) (C := RX13) (T := TX13) (N := 45) hx hb hts in_X13_count_X13 hown hE.1 hP 0 rfl rfl 12 (by decide +kernel) (hts (.fieldLink RX13 41 "ClauseBookModel" "bag" "[I") (List.mem_of_getElem? (i := 3) rfl)) (fun _ h9 => h9) rfl dX13_count_66 ?_
        refine lv_bipush (v := 12) hx hb dX13_count_69 (by decide +kernel) ?_
        refine lv_iload hx hb dX13_count_71 (lv_at hl 1 rfl) ?_
        refine lv_imul hx hb dX13_count_73 ?_
        refine lv_iload hx hb dX13_count_74 (lv_at hl 0 rfl) ?_
        refine lv_iadd hx hb dX13_count_76 ?_
        refine va_iald hx hb hE.1 hP 4 0 rfl rfl (by rw [vp_in_iff]; first | omega | (rw [fb_addI (by omega) (by omega)]; omega)) dX13_count_77 ?_
        refine lv_topi (fun z_10 ez_10 => ?_)
        refine vp_callSi (W.runV (As := [.int z_10]) (rest := [.int lj]) ⟨hx, hb, hml, hown, hts⟩ (c_X13_isClause l D T h0 [.int (q 0), .int (q 1), .int (q 2), .int (q 3), .int (q 4), .int (q 5), .int (q 6), .int (q 7), .ref (a 8), .ref (a 9), .ref (a 10), .ref (a 11), .ref (a 12), .ref (a 13), .int (q 14), .long v, .long w, .ref (a 17), .ref (a 18), .ref (a 19), .ref (a 20), .ref (a 21), .ref (a 22), .ref (a 23), .int (q 24), .ref (a 25), .int (q 26), .ref (a 27), .int (q 28), .int (q 29), .int (q 30), .int (q 31), .int (q 32), .int (q 33), .ref (a 34), .ref (a 35), .ref (a 36), .ref (a 37), .ref (a 38), .ref (a 39), .ref (a 40), .int (q 41), .ref (a 42), .int (q 43), .int (q 44)] z_10 (q 7) rfl (by omega)) (cwV 1 hts gX13_count_X13_isClause rfl rfl rfl hv_X13_isClause ⟨Nat.le_of_ble_eq_true rfl, Nat.le_of_ble_eq_true rfl⟩) (pR_V (q := (RX13, TX13, 45)) (ci := 10) (q0 := 0) hP hE rfl rfl [0] rfl) rfl rfl hl.1 rfl (lv_room (Nat.le_of_ble_eq_true rfl)) dX13_count_78 ⟨Nat.le_of_ble_eq_true rfl, Nat.le_of_ble_eq_true rfl⟩) (fun r_11 hr_11 => ?_)
        rcases bool_post hr_11 with ⟨c_12, rfl⟩ | ⟨c_12, rfl⟩
        · refine lv_if_eq (tgt := 88) hx hb dX13_count_81 (by decide +kernel) (fun c9 => absurd c9 (by decide +kernel)) (fun _ => ?_)
          refine lv_iconst (v := 1) hx hb dX13_count_84 (by decide +kernel) ?_
          refine lv_goto (tgt := 89) hx hb dX13_count_85 (by decide +kernel) ?_
          refine lv_iadd hx hb dX13_count_89 ?_
          refine lv_topi (fun z_13 ez_13 => ?_)
          refine lv_istore_n (lv' := [(3, .int z_13), (5, .int ii), (4, .int bb), (2, .int al), (0, .ref h0), (1, .int x1)]) hx hb dX13_count_90 rfl hl (by decide +kernel) rfl (fun ls hl => ?_)
          obtain ⟨z_14, ez_14⟩ : ∃ y : Int32, y = ii + 1 := ⟨_, rfl⟩
          refine lv_iinc (v := z_14) (lv' := [(5, .int z_14), (3, .int z_13), (4, .int bb), (2, .int al), (0, .ref h0), (1, .int x1)]) hx hb dX13_count_91 hl (k := 1) rfl (by rw [ez_14]; rfl) (by decide +kernel) rfl (fun ls hl => ?_)
          refine lv_goto (tgt := 51) hx hb dX13_count_94 (by decide +kernel) ?_
          exact ih (z_14, z_13) ls ⟨lv_sub hl [0, 2, 1, 3, 4, 5] rfl, (by subst_vars; (try dsimp only); rw [inc1 (i := ii) (n := 1000) (by omega) (by decide +kernel)]; omega)⟩ (by subst_vars; (try dsimp only); rw [inc1 (i := ii) (n := 1000) (by omega) (by decide +kernel)]; omega)
        · refine lv_if_eq (tgt := 88) hx hb dX13_count_81 (by decide +kernel) (fun _ => ?_) (fun c9 => absurd c9 (by decide +kernel))
          refine lv_iconst (v := 0) hx hb dX13_count_88 (by decide +kernel) ?_
          refine lv_iadd hx hb dX13_count_89 ?_
          refine lv_topi (fun z_15 ez_15 => ?_)
          refine lv_istore_n (lv' := [(3, .int z_15), (5, .int ii), (4, .int bb), (2, .int al), (0, .ref h0), (1, .int x1)]) hx hb dX13_count_90 rfl hl (by decide +kernel) rfl (fun ls hl => ?_)
          obtain ⟨z_16, ez_16⟩ : ∃ y : Int32, y = ii + 1 := ⟨_, rfl⟩
          refine lv_iinc (v := z_16) (lv' := [(5, .int z_16), (3, .int z_15), (4, .int bb), (2, .int al), (0, .ref h0), (1, .int x1)]) hx hb dX13_count_91 hl (k := 1) rfl (by rw [ez_16]; rfl) (by decide +kernel) rfl (fun ls hl => ?_)
          refine lv_goto (tgt := 51) hx hb dX13_count_94 (by decide +kernel) ?_
          exact ih (z_16, z_15) ls ⟨lv_sub hl [0, 2, 1, 3, 4, 5] rfl, (by subst_vars; (try dsimp only); rw [inc1 (i := ii) (n := 1000) (by omega) (by decide +kernel)]; omega)⟩ (by subst_vars; (try dsimp only); rw [inc1 (i := ii) (n := 1000) (by omega) (by decide +kernel)]; omega)
  · rw [fa_le] at c_1
    refine lv_iload_n hx hb dX13_count_16 rfl (lv_at hl 2 rfl) ?_
    refine lv_aload_n hx hb dX13_count_17 rfl (lv_at hl 3 rfl) ?_
    refine lv_iload hx hb dX13_count_18 (lv_at hl 0 rfl) ?_
    refine vp_callSi (W.runV (As := [.int xx]) (rest := [.int al]) ⟨hx, hb, hml, hown, hts⟩ (c_X13_isNamed l D T h0 [.int (q 0), .int (q 1), .int (q 2), .int (q 3), .int (q 4), .int (q 5), .int (q 6), .int (q 7), .ref (a 8), .ref (a 9), .ref (a 10), .ref (a 11), .ref (a 12), .ref (a 13), .int (q 14), .long v, .long w, .ref (a 17), .ref (a 18), .ref (a 19), .ref (a 20), .ref (a 21), .ref (a 22), .ref (a 23), .int (q 24), .ref (a 25), .int (q 26), .ref (a 27), .int (q 28), .int (q 29), .int (q 30), .int (q 31), .int (q 32), .int (q 33), .ref (a 34), .ref (a 35), .ref (a 36), .ref (a 37), .ref (a 38), .ref (a 39), .ref (a 40), .int (q 41), .ref (a 42), .int (q 43), .int (q 44)] (a 8) f8 (a 10) f10 (a 11) f11 xx (q 7) rfl rfl rfl rfl (by omega) hokR) (cwV 1 hts gX13_count_X13_isNamed rfl rfl rfl hv_X13_isNamed ⟨Nat.le_of_ble_eq_true rfl, Nat.le_of_ble_eq_true rfl⟩) (pR_V (q := (RX13, TX13, 45)) (ci := 10) (q0 := 0) hP hE rfl rfl [0, 1, 2, 3] rfl) rfl rfl hl.1 rfl (lv_room (Nat.le_of_ble_eq_true rfl)) dX13_count_20 ⟨Nat.le_of_ble_eq_true rfl, Nat.le_of_ble_eq_true rfl⟩) (fun r_17 hr_17 => ?_)
    refine lv_if_eq (tgt := 30) hx hb dX13_count_23 (by decide +kernel) (fun c_18 => ?_) (fun c_18 => ?_)
    · rw [fa_eq] at c_18
      try rw [ti_0] at c_18
      refine lv_iconst (v := 1) hx hb dX13_count_30 (by decide +kernel) ?_
      refine lv_iadd hx hb dX13_count_31 ?_
      refine lv_topi (fun z_19 ez_19 => ?_)
      refine lv_istore_n (lv' := [(2, .int z_19), (4, .int xx), (3, .int 0), (0, .ref h0), (1, .int x1)]) hx hb dX13_count_32 rfl hl (by decide +kernel) rfl (fun ls hl => ?_)
      obtain ⟨z_20, ez_20⟩ : ∃ y : Int32, y = xx + 1 := ⟨_, rfl⟩
      refine lv_iinc (v := z_20) (lv' := [(4, .int z_20), (2, .int z_19), (3, .int 0), (0, .ref h0), (1, .int x1)]) hx hb dX13_count_33 hl (k := 1) rfl (by rw [ez_20]; rfl) (by decide +kernel) rfl (fun ls hl => ?_)
      refine lv_goto (tgt := 7) hx hb dX13_count_36 (by decide +kernel) ?_
      exact ih (z_20, z_19) ls ⟨lv_sub hl [0, 2, 1, 3, 4] rfl, (by subst_vars; (try dsimp only); rw [inc1 (i := xx) (n := 1000) (by omega) (by decide +kernel)]; omega)⟩ (by subst_vars; (try dsimp only); rw [inc1 (i := xx) (n := 1000) (by omega) (by decide +kernel)]; omega)
    · rw [fa_eq] at c_18
      try rw [ti_0] at c_18
      refine lv_iconst (v := 0) hx hb dX13_count_26 (by decide +kernel) ?_
      refine lv_goto (tgt := 31) hx hb dX13_count_27 (by decide +kernel) ?_
      refine lv_iadd hx hb dX13_count_31 ?_
      refine lv_topi (fun z_21 ez_21 => ?_)
      refine lv_istore_n (lv' := [(2, .int z_21), (4, .int xx), (3, .int 0), (0, .ref h0), (1, .int x1)]) hx hb dX13_count_32 rfl hl (by decide +kernel) rfl (fun ls hl => ?_)
      obtain ⟨z_22, ez_22⟩ : ∃ y : Int32, y = xx + 1 := ⟨_, rfl⟩
      refine lv_iinc (v := z_22) (lv' := [(4, .int z_22), (2, .int z_21), (3, .int 0), (0, .ref h0), (1, .int x1)]) hx hb dX13_count_33 hl (k := 1) rfl (by rw [ez_22]; rfl) (by decide +kernel) rfl (fun ls hl => ?_)
      refine lv_goto (tgt := 7) hx hb dX13_count_36 (by decide +kernel) ?_
      exact ih (z_22, z_21) ls ⟨lv_sub hl [0, 2, 1, 3, 4] rfl, (by subst_vars; (try dsimp only); rw [inc1 (i := xx) (n := 1000) (by omega) (by decide +kernel)]; omega)⟩ (by subst_vars; (try dsimp only); rw [inc1 (i := xx) (n := 1000) (by omega) (by decide +kernel)]; omega)
