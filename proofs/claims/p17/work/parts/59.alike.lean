theorem dX13_unlike_0 : decode cX13_unlike 0 = .ok (.aload_n 0, 1) := by decide +kernel
theorem dX13_unlike_1 : decode cX13_unlike 1 = .ok (.iload_n 1, 1) := by decide +kernel
theorem dX13_unlike_10 : decode cX13_unlike 10 = .ok (.invokevirtual 233, 3) := by decide +kernel
theorem dX13_unlike_101 : decode cX13_unlike 101 = .ok (.iinc 3 1, 3) := by decide +kernel
theorem dX13_unlike_104 : decode cX13_unlike 104 = .ok (.goto (-69), 3) := by decide +kernel
theorem dX13_unlike_107 : decode cX13_unlike 107 = .ok (.iconst (-1), 1) := by decide +kernel
theorem dX13_unlike_108 : decode cX13_unlike 108 = .ok (.ireturn, 1) := by decide +kernel
theorem dX13_unlike_13 : decode cX13_unlike 13 = .ok (.ifCond .ne 6, 3) := by decide +kernel
theorem dX13_unlike_16 : decode cX13_unlike 16 = .ok (.bipush (-2), 2) := by decide +kernel
theorem dX13_unlike_18 : decode cX13_unlike 18 = .ok (.ireturn, 1) := by decide +kernel
theorem dX13_unlike_19 : decode cX13_unlike 19 = .ok (.aload_n 0, 1) := by decide +kernel
theorem dX13_unlike_2 : decode cX13_unlike 2 = .ok (.invokevirtual 233, 3) := by decide +kernel
theorem dX13_unlike_20 : decode cX13_unlike 20 = .ok (.iload_n 1, 1) := by decide +kernel
theorem dX13_unlike_21 : decode cX13_unlike 21 = .ok (.iload_n 2, 1) := by decide +kernel
theorem dX13_unlike_22 : decode cX13_unlike 22 = .ok (.if_icmp .le 7, 3) := by decide +kernel
theorem dX13_unlike_25 : decode cX13_unlike 25 = .ok (.iload_n 1, 1) := by decide +kernel
theorem dX13_unlike_26 : decode cX13_unlike 26 = .ok (.goto 4, 3) := by decide +kernel
theorem dX13_unlike_29 : decode cX13_unlike 29 = .ok (.iload_n 2, 1) := by decide +kernel
theorem dX13_unlike_30 : decode cX13_unlike 30 = .ok (.invokevirtual 274, 3) := by decide +kernel
theorem dX13_unlike_33 : decode cX13_unlike 33 = .ok (.iconst 0, 1) := by decide +kernel
theorem dX13_unlike_34 : decode cX13_unlike 34 = .ok (.istore_n 3, 1) := by decide +kernel
theorem dX13_unlike_35 : decode cX13_unlike 35 = .ok (.iload_n 3, 1) := by decide +kernel
theorem dX13_unlike_36 : decode cX13_unlike 36 = .ok (.bipush 6, 2) := by decide +kernel
theorem dX13_unlike_38 : decode cX13_unlike 38 = .ok (.if_icmp .gt 69, 3) := by decide +kernel
theorem dX13_unlike_41 : decode cX13_unlike 41 = .ok (.iconst 0, 1) := by decide +kernel
theorem dX13_unlike_42 : decode cX13_unlike 42 = .ok (.istore 4, 2) := by decide +kernel
theorem dX13_unlike_44 : decode cX13_unlike 44 = .ok (.iload 4, 2) := by decide +kernel
theorem dX13_unlike_46 : decode cX13_unlike 46 = .ok (.iload_n 3, 1) := by decide +kernel
theorem dX13_unlike_47 : decode cX13_unlike 47 = .ok (.if_icmp .gt 54, 3) := by decide +kernel
theorem dX13_unlike_5 : decode cX13_unlike 5 = .ok (.ifCond .eq 11, 3) := by decide +kernel
theorem dX13_unlike_50 : decode cX13_unlike 50 = .ok (.aload_n 0, 1) := by decide +kernel
theorem dX13_unlike_51 : decode cX13_unlike 51 = .ok (.iload_n 1, 1) := by decide +kernel
theorem dX13_unlike_52 : decode cX13_unlike 52 = .ok (.iload_n 3, 1) := by decide +kernel
theorem dX13_unlike_53 : decode cX13_unlike 53 = .ok (.iload 4, 2) := by decide +kernel
theorem dX13_unlike_55 : decode cX13_unlike 55 = .ok (.invokevirtual 299, 3) := by decide +kernel
theorem dX13_unlike_58 : decode cX13_unlike 58 = .ok (.ifCond .ne 14, 3) := by decide +kernel
theorem dX13_unlike_61 : decode cX13_unlike 61 = .ok (.aload_n 0, 1) := by decide +kernel
theorem dX13_unlike_62 : decode cX13_unlike 62 = .ok (.iload_n 2, 1) := by decide +kernel
theorem dX13_unlike_63 : decode cX13_unlike 63 = .ok (.iload_n 3, 1) := by decide +kernel
theorem dX13_unlike_64 : decode cX13_unlike 64 = .ok (.iload 4, 2) := by decide +kernel
theorem dX13_unlike_66 : decode cX13_unlike 66 = .ok (.invokevirtual 299, 3) := by decide +kernel
theorem dX13_unlike_69 : decode cX13_unlike 69 = .ok (.ifCond .eq 6, 3) := by decide +kernel
theorem dX13_unlike_72 : decode cX13_unlike 72 = .ok (.bipush (-5), 2) := by decide +kernel
theorem dX13_unlike_74 : decode cX13_unlike 74 = .ok (.ireturn, 1) := by decide +kernel
theorem dX13_unlike_75 : decode cX13_unlike 75 = .ok (.aload_n 0, 1) := by decide +kernel
theorem dX13_unlike_76 : decode cX13_unlike 76 = .ok (.iload_n 1, 1) := by decide +kernel
theorem dX13_unlike_77 : decode cX13_unlike 77 = .ok (.iload_n 2, 1) := by decide +kernel
theorem dX13_unlike_78 : decode cX13_unlike 78 = .ok (.iload_n 3, 1) := by decide +kernel
theorem dX13_unlike_79 : decode cX13_unlike 79 = .ok (.iload 4, 2) := by decide +kernel
theorem dX13_unlike_8 : decode cX13_unlike 8 = .ok (.aload_n 0, 1) := by decide +kernel
theorem dX13_unlike_81 : decode cX13_unlike 81 = .ok (.invokevirtual 303, 3) := by decide +kernel
theorem dX13_unlike_84 : decode cX13_unlike 84 = .ok (.ifCond .eq 11, 3) := by decide +kernel
theorem dX13_unlike_87 : decode cX13_unlike 87 = .ok (.bipush 10, 2) := by decide +kernel
theorem dX13_unlike_89 : decode cX13_unlike 89 = .ok (.iload_n 3, 1) := by decide +kernel
theorem dX13_unlike_9 : decode cX13_unlike 9 = .ok (.iload_n 2, 1) := by decide +kernel
theorem dX13_unlike_90 : decode cX13_unlike 90 = .ok (.imul, 1) := by decide +kernel
theorem dX13_unlike_91 : decode cX13_unlike 91 = .ok (.iload 4, 2) := by decide +kernel
theorem dX13_unlike_93 : decode cX13_unlike 93 = .ok (.iadd, 1) := by decide +kernel
theorem dX13_unlike_94 : decode cX13_unlike 94 = .ok (.ireturn, 1) := by decide +kernel
theorem dX13_unlike_95 : decode cX13_unlike 95 = .ok (.iinc 4 1, 3) := by decide +kernel
theorem dX13_unlike_98 : decode cX13_unlike 98 = .ok (.goto (-54), 3) := by decide +kernel
set_option maxRecDepth 20000 in
theorem ggX13_unlike_X13_comparedAt : GoodIn wsX13_unlike wsX13_comparedAt := goodIn_r _ [118, 17, 19, 57, 58, 4, 59, 92, 93, 94, 95, 96, 97, 98, 119, 120, 121, 122, 123, 124, 125, 126, 127, 128, 129, 130, 131, 132, 133, 134, 135, 136, 137, 138, 139, 140, 141, 142, 143, 144, 145, 146, 147, 148, 149, 150, 151, 152, 153, 154, 155, 156, 157, 158, 159, 160, 161, 162, 163] rfl (by decide +kernel)
set_option maxRecDepth 20000 in
theorem ggX13_unlike_X13_isClause : GoodIn wsX13_unlike wsX13_isClause := goodIn_r _ [5, 6, 7, 8, 4, 9, 119, 120, 121, 122, 123, 124, 125, 126, 127, 128, 129, 130, 131, 132, 133, 134, 135, 136, 137, 138, 139, 140, 141, 142, 143, 144, 145, 146, 147, 148, 149, 150, 151, 152, 153, 154, 155, 156, 157, 158, 159, 160, 161, 162, 163] rfl (by decide +kernel)
set_option maxRecDepth 20000 in
theorem ggX13_unlike_X13_isMuchAt : GoodIn wsX13_unlike wsX13_isMuchAt := goodIn_r _ [114, 16, 57, 58, 4, 59, 119, 120, 121, 122, 123, 124, 125, 126, 127, 128, 129, 130, 131, 132, 133, 134, 135, 136, 137, 138, 139, 140, 141, 142, 143, 144, 145, 146, 147, 148, 149, 150, 151, 152, 153, 154, 155, 156, 157, 158, 159, 160, 161, 162, 163] rfl (by decide +kernel)
set_option maxRecDepth 40000 in
theorem ggX13_unlike_X13_laysWorths_0 : GoodIn wsX13_unlike [.code yX13_laysWorths cX13_laysWorths 6 none] := goodIn_r _ [13] rfl (by decide +kernel)
set_option maxRecDepth 40000 in
theorem ggX13_unlike_X13_laysWorths_1 : GoodIn wsX13_unlike wsX13_laysWorths_r1 := goodIn_r _ [14, 15, 16, 17, 18, 19, 20, 21, 22, 23, 4, 24, 6, 25, 26, 27, 28, 29, 30, 31, 32, 33, 34, 35] rfl (by decide +kernel)
set_option maxRecDepth 40000 in
theorem ggX13_unlike_X13_laysWorths_2 : GoodIn wsX13_unlike wsX13_laysWorths_r2 := goodIn_r _ [36, 37, 38, 39, 40, 41, 42, 43, 44, 45, 46, 47, 48, 49, 50, 51, 52, 53, 54, 55, 56, 57, 58, 59] rfl (by decide +kernel)
set_option maxRecDepth 40000 in
theorem ggX13_unlike_X13_laysWorths_3 : GoodIn wsX13_unlike wsX13_laysWorths_r3 := goodIn_r _ [60, 61, 62, 63, 64, 65, 66, 67, 68, 69, 70, 71, 72, 73, 74, 75, 76, 77, 78, 79, 80, 81, 82, 83] rfl (by decide +kernel)
set_option maxRecDepth 40000 in
theorem ggX13_unlike_X13_laysWorths_4 : GoodIn wsX13_unlike wsX13_laysWorths_r4 := goodIn_r _ [84, 85, 86, 87, 88, 89, 90, 91, 92, 93, 94, 95, 96, 97, 98, 99, 100, 101, 102, 103, 104, 105, 106, 107] rfl (by decide +kernel)
set_option maxRecDepth 40000 in
theorem ggX13_unlike_X13_laysWorths_5 : GoodIn wsX13_unlike wsX13_laysWorths_r5 := goodIn_r _ [108, 109, 110] rfl (by decide +kernel)
set_option maxRecDepth 40000 in
theorem ggX13_unlike_X13_laysWorths_6 : GoodIn wsX13_unlike wsX130 := goodIn_r _ [119, 120, 121, 122, 123, 124, 125, 126, 127, 128, 129, 130, 131, 132, 133, 134, 135, 136, 137, 138, 139, 140, 141, 142, 143, 144, 145, 146, 147, 148, 149, 150, 151, 152, 153, 154, 155, 156, 157, 158, 159, 160, 161, 162, 163] rfl (by decide +kernel)
set_option maxRecDepth 40000 in
theorem ggX13_unlike_X13_laysWorths : GoodIn wsX13_unlike wsX13_laysWorths := (goodIn_app ggX13_unlike_X13_laysWorths_0 (goodIn_app (goodIn_app ggX13_unlike_X13_laysWorths_1 (goodIn_app ggX13_unlike_X13_laysWorths_2 (goodIn_app ggX13_unlike_X13_laysWorths_3 (goodIn_app ggX13_unlike_X13_laysWorths_4 ggX13_unlike_X13_laysWorths_5)))) ggX13_unlike_X13_laysWorths_6))
set_option maxRecDepth 20000 in
theorem gX13_unlike_X13_comparedAt : GoodIn wsX13_unlike (wsV RX13 303 RX13 yX13_comparedAt wsX13_comparedAt) := goodIn_app (goodIn_r _ [115, 116, 117, 4] rfl (by decide +kernel)) ggX13_unlike_X13_comparedAt
set_option maxRecDepth 20000 in
theorem gX13_unlike_X13_isClause : GoodIn wsX13_unlike (wsV RX13 233 RX13 yX13_isClause wsX13_isClause) := goodIn_app (goodIn_r _ [1, 2, 3, 4] rfl (by decide +kernel)) ggX13_unlike_X13_isClause
set_option maxRecDepth 20000 in
theorem gX13_unlike_X13_isMuchAt : GoodIn wsX13_unlike (wsV RX13 299 RX13 yX13_isMuchAt wsX13_isMuchAt) := goodIn_app (goodIn_r _ [111, 112, 113, 4] rfl (by decide +kernel)) ggX13_unlike_X13_isMuchAt
set_option maxRecDepth 20000 in
theorem gX13_unlike_X13_laysWorths : GoodIn wsX13_unlike (wsV RX13 274 RX13 yX13_laysWorths wsX13_laysWorths) := goodIn_app (goodIn_r _ [10, 11, 12, 4] rfl (by decide +kernel)) ggX13_unlike_X13_laysWorths
set_option maxHeartbeats 4000000 in
set_option maxRecDepth 100000 in
theorem c_X13_unlike (l : Launch) (D : va_G) (T : Nat → ClassId) (sz : Nat) (h0 : Nat) (q : Nat → Int32) (v : Int64) (w : Int64) (a : Nat → Nat) (f8 : Nat → Int32) (f9 : Nat → Int32) (f10 : Nat → Int32) (f11 : Nat → Int32) (f17 : Nat → Int32) (f18 : Nat → Int32) (f19 : Nat → Int32) (f20 : Nat → Int64) (f21 : Nat → Int64) (f22 : Nat → Int32) (x1 : Int32) (x2 : Int32) (hB : isB (q 14)) (hm : 0 ≤ (q 7).toInt ∧ (q 7).toInt ≤ 24) (hokR : okR f8 f10 f11) (hZ : ∀ j : Nat, isB (f22 j)) (hL : (1 ≤ (q 4).toInt ∧ (q 4).toInt ≤ 9) ∧ 1 ≤ (q 6).toInt ∧ (q 6).toInt ≤ 9) : Met l yX13_unlike wsX13_unlike ({ frames := 134, cells := 0, slots := 0, locals := 5283 }) (pW [.ref h0, .int x1, .int x2] D T [(h0, .inr (10, (Value.int (q 0) :: Value.int (q 1) :: Value.int (q 2) :: Value.int (q 3) :: Value.int (q 4) :: Value.int (q 5) :: Value.int (q 6) :: Value.int (q 7) :: Value.ref (a 8) :: Value.ref (a 9) :: Value.ref (a 10) :: Value.ref (a 11) :: Value.ref (a 12) :: Value.ref (a 13) :: Value.int (q 14) :: Value.long v :: Value.long w :: Value.ref (a 17) :: Value.ref (a 18) :: Value.ref (a 19) :: Value.ref (a 20) :: Value.ref (a 21) :: Value.ref (a 22) :: Value.ref (a 23) :: Value.int (q 24) :: Value.ref (a 25) :: Value.int (q 26) :: Value.ref (a 27) :: Value.int (q 28) :: Value.int (q 29) :: Value.int (q 30) :: Value.int (q 31) :: Value.int (q 32) :: Value.int (q 33) :: Value.ref (a 34) :: Value.ref (a 35) :: Value.ref (a 36) :: Value.ref (a 37) :: Value.ref (a 38) :: Value.ref (a 39) :: Value.ref (a 40) :: Value.int (q 41) :: Value.ref (a 42) :: Value.int (q 43) :: Value.int (q 44) :: []))), ((a 8), .inl (T 0, 24, .inl f8)), ((a 9), .inl (T 0, 24, .inl f9)), ((a 10), .inl (T 0, 24, .inl f10)), ((a 11), .inl (T 0, 24, .inl f11)), ((a 17), .inl (T 0, 24, .inl f17)), ((a 18), .inl (T 0, 24, .inl f18)), ((a 19), .inl (T 0, 24, .inl f19)), ((a 20), .inl (T 1, 672, .inr (.inl f20))), ((a 21), .inl (T 1, 672, .inr (.inl f21))), ((a 22), .inl (T 4, 672, .inl f22))] sz) (va_Qi (fun (r : Int32) (u : (Int32) × (Int64) × (Int64) × (Nat → Int32) × (Nat → Int32) × (Nat → Int32) × (Nat → Int64) × (Nat → Int64) × (Nat → Int32)) => (isB u.1) ∧ (∀ j : Nat, isB (u.2.2.2.2.2.2.2.2 j)) ∧ ((0 ≤ x1.toInt ∧ x1.toInt < (q 7).toInt) ∧ 0 ≤ x2.toInt ∧ x2.toInt < (q 7).toInt → ∀ j : Nat, (j : Int) < (q 7).toInt → mesP f8 f9 f10 f11 u.2.2.2.1 u.2.2.2.2.1 u.2.2.2.2.2.1 j) ∧ (unlQ (VALW (lqW (q 0) (q 1) (q 2) (q 3) (q 4) (q 5) (q 6)) f8 f9 f10 f11 u.2.2.2.1) (q 7) x1 x2 r)) (bW D (va_A [(h0, .inr (10, (Value.int (q 0) :: Value.int (q 1) :: Value.int (q 2) :: Value.int (q 3) :: Value.int (q 4) :: Value.int (q 5) :: Value.int (q 6) :: Value.int (q 7) :: Value.ref (a 8) :: Value.ref (a 9) :: Value.ref (a 10) :: Value.ref (a 11) :: Value.ref (a 12) :: Value.ref (a 13) :: Value.int (q 14) :: Value.long v :: Value.long w :: Value.ref (a 17) :: Value.ref (a 18) :: Value.ref (a 19) :: Value.ref (a 20) :: Value.ref (a 21) :: Value.ref (a 22) :: Value.ref (a 23) :: Value.int (q 24) :: Value.ref (a 25) :: Value.int (q 26) :: Value.ref (a 27) :: Value.int (q 28) :: Value.int (q 29) :: Value.int (q 30) :: Value.int (q 31) :: Value.int (q 32) :: Value.int (q 33) :: Value.ref (a 34) :: Value.ref (a 35) :: Value.ref (a 36) :: Value.ref (a 37) :: Value.ref (a 38) :: Value.ref (a 39) :: Value.ref (a 40) :: Value.int (q 41) :: Value.ref (a 42) :: Value.int (q 43) :: Value.int (q 44) :: []))), ((a 8), .inl (T 0, 24, .inl f8)), ((a 9), .inl (T 0, 24, .inl f9)), ((a 10), .inl (T 0, 24, .inl f10)), ((a 11), .inl (T 0, 24, .inl f11)), ((a 17), .inl (T 0, 24, .inl f17)), ((a 18), .inl (T 0, 24, .inl f18)), ((a 19), .inl (T 0, 24, .inl f19)), ((a 20), .inl (T 1, 672, .inr (.inl f20))), ((a 21), .inl (T 1, 672, .inr (.inl f21))), ((a 22), .inl (T 4, 672, .inl f22))] sz) (fun (u : (Int32) × (Int64) × (Int64) × (Nat → Int32) × (Nat → Int32) × (Nat → Int32) × (Nat → Int64) × (Nat → Int64) × (Nat → Int32)) => [(h0, .inr (10, (Value.int (q 0) :: Value.int (q 1) :: Value.int (q 2) :: Value.int (q 3) :: Value.int (q 4) :: Value.int (q 5) :: Value.int (q 6) :: Value.int (q 7) :: Value.ref (a 8) :: Value.ref (a 9) :: Value.ref (a 10) :: Value.ref (a 11) :: Value.ref (a 12) :: Value.ref (a 13) :: Value.int u.1 :: Value.long u.2.1 :: Value.long u.2.2.1 :: Value.ref (a 17) :: Value.ref (a 18) :: Value.ref (a 19) :: Value.ref (a 20) :: Value.ref (a 21) :: Value.ref (a 22) :: Value.ref (a 23) :: Value.int (q 24) :: Value.ref (a 25) :: Value.int (q 26) :: Value.ref (a 27) :: Value.int (q 28) :: Value.int (q 29) :: Value.int (q 30) :: Value.int (q 31) :: Value.int (q 32) :: Value.int (q 33) :: Value.ref (a 34) :: Value.ref (a 35) :: Value.ref (a 36) :: Value.ref (a 37) :: Value.ref (a 38) :: Value.ref (a 39) :: Value.ref (a 40) :: Value.int (q 41) :: Value.ref (a 42) :: Value.int (q 43) :: Value.int (q 44) :: []))), ((a 8), .inl (T 0, 24, .inl f8)), ((a 9), .inl (T 0, 24, .inl f9)), ((a 10), .inl (T 0, 24, .inl f10)), ((a 11), .inl (T 0, 24, .inl f11)), ((a 17), .inl (T 0, 24, .inl u.2.2.2.1)), ((a 18), .inl (T 0, 24, .inl u.2.2.2.2.1)), ((a 19), .inl (T 0, 24, .inl u.2.2.2.2.2.1)), ((a 20), .inl (T 1, 672, .inr (.inl u.2.2.2.2.2.2.1))), ((a 21), .inl (T 1, 672, .inr (.inl u.2.2.2.2.2.2.2.1))), ((a 22), .inl (T 4, 672, .inl u.2.2.2.2.2.2.2.2))])) (va_A [(h0, .inr (10, (Value.int (q 0) :: Value.int (q 1) :: Value.int (q 2) :: Value.int (q 3) :: Value.int (q 4) :: Value.int (q 5) :: Value.int (q 6) :: Value.int (q 7) :: Value.ref (a 8) :: Value.ref (a 9) :: Value.ref (a 10) :: Value.ref (a 11) :: Value.ref (a 12) :: Value.ref (a 13) :: Value.int (q 14) :: Value.long v :: Value.long w :: Value.ref (a 17) :: Value.ref (a 18) :: Value.ref (a 19) :: Value.ref (a 20) :: Value.ref (a 21) :: Value.ref (a 22) :: Value.ref (a 23) :: Value.int (q 24) :: Value.ref (a 25) :: Value.int (q 26) :: Value.ref (a 27) :: Value.int (q 28) :: Value.int (q 29) :: Value.int (q 30) :: Value.int (q 31) :: Value.int (q 32) :: Value.int (q 33) :: Value.ref (a 34) :: Value.ref (a 35) :: Value.ref (a 36) :: Value.ref (a 37) :: Value.ref (a 38) :: Value.ref (a 39) :: Value.ref (a 40) :: Value.int (q 41) :: Value.ref (a 42) :: Value.int (q 43) :: Value.int (q 44) :: []))), ((a 8), .inl (T 0, 24, .inl f8)), ((a 9), .inl (T 0, 24, .inl f9)), ((a 10), .inl (T 0, 24, .inl f10)), ((a 11), .inl (T 0, 24, .inl f11)), ((a 17), .inl (T 0, 24, .inl f17)), ((a 18), .inl (T 0, 24, .inl f18)), ((a 19), .inl (T 0, 24, .inl f19)), ((a 20), .inl (T 1, 672, .inr (.inl f20))), ((a 21), .inl (T 1, 672, .inr (.inl f21))), ((a 22), .inl (T 4, 672, .inl f22))] sz)) 0 0 (va_A [(h0, .inr (10, (Value.int (q 0) :: Value.int (q 1) :: Value.int (q 2) :: Value.int (q 3) :: Value.int (q 4) :: Value.int (q 5) :: Value.int (q 6) :: Value.int (q 7) :: Value.ref (a 8) :: Value.ref (a 9) :: Value.ref (a 10) :: Value.ref (a 11) :: Value.ref (a 12) :: Value.ref (a 13) :: Value.int (q 14) :: Value.long v :: Value.long w :: Value.ref (a 17) :: Value.ref (a 18) :: Value.ref (a 19) :: Value.ref (a 20) :: Value.ref (a 21) :: Value.ref (a 22) :: Value.ref (a 23) :: Value.int (q 24) :: Value.ref (a 25) :: Value.int (q 26) :: Value.ref (a 27) :: Value.int (q 28) :: Value.int (q 29) :: Value.int (q 30) :: Value.int (q 31) :: Value.int (q 32) :: Value.int (q 33) :: Value.ref (a 34) :: Value.ref (a 35) :: Value.ref (a 36) :: Value.ref (a 37) :: Value.ref (a 38) :: Value.ref (a 39) :: Value.ref (a 40) :: Value.int (q 41) :: Value.ref (a 42) :: Value.int (q 43) :: Value.int (q 44) :: []))), ((a 8), .inl (T 0, 24, .inl f8)), ((a 9), .inl (T 0, 24, .inl f9)), ((a 10), .inl (T 0, 24, .inl f10)), ((a 11), .inl (T 0, 24, .inl f11)), ((a 17), .inl (T 0, 24, .inl f17)), ((a 18), .inl (T 0, 24, .inl f18)), ((a 19), .inl (T 0, 24, .inl f19)), ((a 20), .inl (T 1, 672, .inr (.inl f20))), ((a 21), .inl (T 1, 672, .inr (.inl f21))), ((a 22), .inl (T 4, 672, .inl f22))] sz) := by
  refine Met.ofW (cc := cX13_unlike) (maxL := 5) (ret := (some .int)) (by decide +kernel) rfl ?_
  intro p e s m args below meth c s₁ B hml hv
  obtain ⟨rfl, hsz, hP, hE, hD0⟩ := hv
  have hx := B.exec
  have hb := B.bytes
  have hr := B.returns
  have hts := atoms_spec (ws := wsX13_unlike) B.pre
  have hown : s.vm.findClass RX13 = some m.cls := findClass_of_methodNamed B.named
  have hlocks := B.notSynchronized
  subst hsz
  have hD := hD0.self (sz := s.heap.size)
  generalize hAe : va_A [(h0, .inr (10, (Value.int (q 0) :: Value.int (q 1) :: Value.int (q 2) :: Value.int (q 3) :: Value.int (q 4) :: Value.int (q 5) :: Value.int (q 6) :: Value.int (q 7) :: Value.ref (a 8) :: Value.ref (a 9) :: Value.ref (a 10) :: Value.ref (a 11) :: Value.ref (a 12) :: Value.ref (a 13) :: Value.int (q 14) :: Value.long v :: Value.long w :: Value.ref (a 17) :: Value.ref (a 18) :: Value.ref (a 19) :: Value.ref (a 20) :: Value.ref (a 21) :: Value.ref (a 22) :: Value.ref (a 23) :: Value.int (q 24) :: Value.ref (a 25) :: Value.int (q 26) :: Value.ref (a 27) :: Value.int (q 28) :: Value.int (q 29) :: Value.int (q 30) :: Value.int (q 31) :: Value.int (q 32) :: Value.int (q 33) :: Value.ref (a 34) :: Value.ref (a 35) :: Value.ref (a 36) :: Value.ref (a 37) :: Value.ref (a 38) :: Value.ref (a 39) :: Value.ref (a 40) :: Value.int (q 41) :: Value.ref (a 42) :: Value.int (q 43) :: Value.int (q 44) :: []))), ((a 8), .inl (T 0, 24, .inl f8)), ((a 9), .inl (T 0, 24, .inl f9)), ((a 10), .inl (T 0, 24, .inl f10)), ((a 11), .inl (T 0, 24, .inl f11)), ((a 17), .inl (T 0, 24, .inl f17)), ((a 18), .inl (T 0, 24, .inl f18)), ((a 19), .inl (T 0, 24, .inl f19)), ((a 20), .inl (T 1, 672, .inr (.inl f20))), ((a 21), .inl (T 1, 672, .inr (.inl f21))), ((a 22), .inl (T 4, 672, .inl f22))] s.heap.size = A at hD ⊢
  have hA : ∀ q : Nat, s.heap.size ≤ q → A q := fun q h => by rw [← hAe]; exact Or.inr h
  have hS : va_S A s.heap s.heap [] := va_S.rf
  have hP : va_P D vwCl [(h0, .inr (10, (Value.int (q 0) :: Value.int (q 1) :: Value.int (q 2) :: Value.int (q 3) :: Value.int (q 4) :: Value.int (q 5) :: Value.int (q 6) :: Value.int (q 7) :: Value.ref (a 8) :: Value.ref (a 9) :: Value.ref (a 10) :: Value.ref (a 11) :: Value.ref (a 12) :: Value.ref (a 13) :: Value.int (q 14) :: Value.long v :: Value.long w :: Value.ref (a 17) :: Value.ref (a 18) :: Value.ref (a 19) :: Value.ref (a 20) :: Value.ref (a 21) :: Value.ref (a 22) :: Value.ref (a 23) :: Value.int (q 24) :: Value.ref (a 25) :: Value.int (q 26) :: Value.ref (a 27) :: Value.int (q 28) :: Value.int (q 29) :: Value.int (q 30) :: Value.int (q 31) :: Value.int (q 32) :: Value.int (q 33) :: Value.ref (a 34) :: Value.ref (a 35) :: Value.ref (a 36) :: Value.ref (a 37) :: Value.ref (a 38) :: Value.ref (a 39) :: Value.ref (a 40) :: Value.int (q 41) :: Value.ref (a 42) :: Value.int (q 43) :: Value.int (q 44) :: []))), ((a 8), .inl (T 0, 24, .inl f8)), ((a 9), .inl (T 0, 24, .inl f9)), ((a 10), .inl (T 0, 24, .inl f10)), ((a 11), .inl (T 0, 24, .inl f11)), ((a 17), .inl (T 0, 24, .inl f17)), ((a 18), .inl (T 0, 24, .inl f18)), ((a 19), .inl (T 0, 24, .inl f19)), ((a 20), .inl (T 1, 672, .inr (.inl f20))), ((a 21), .inl (T 1, 672, .inr (.inl f21))), ((a 22), .inl (T 4, 672, .inl f22))] s.heap := hP
  have hl := lv_entry ([.ref h0, .int x1, .int x2]) (n := 5) (Nat.le_of_ble_eq_true rfl)
  rw [lg_entry_eq]
  generalize (lg_sl ([.ref h0, .int x1, .int x2]) ++ List.replicate (5 - (lg_sl ([.ref h0, .int x1, .int x2])).length) Slot.unset).toArray = ls at hl ⊢
  have hl : lv_has ls 5 [(0, .ref h0), (1, .int x1), (2, .int x2)] := hl
  clear hD0
  refine lv_aload_n hx hb dX13_unlike_0 rfl (lv_at hl 0 rfl) ?_
  refine lv_iload_n hx hb dX13_unlike_1 rfl (lv_at hl 1 rfl) ?_
  refine vp_callSi (W.runV (As := [.int x1]) (rest := []) ⟨hx, hb, hml, hown, hts⟩ (c_X13_isClause l D T h0 [.int (q 0), .int (q 1), .int (q 2), .int (q 3), .int (q 4), .int (q 5), .int (q 6), .int (q 7), .ref (a 8), .ref (a 9), .ref (a 10), .ref (a 11), .ref (a 12), .ref (a 13), .int (q 14), .long v, .long w, .ref (a 17), .ref (a 18), .ref (a 19), .ref (a 20), .ref (a 21), .ref (a 22), .ref (a 23), .int (q 24), .ref (a 25), .int (q 26), .ref (a 27), .int (q 28), .int (q 29), .int (q 30), .int (q 31), .int (q 32), .int (q 33), .ref (a 34), .ref (a 35), .ref (a 36), .ref (a 37), .ref (a 38), .ref (a 39), .ref (a 40), .int (q 41), .ref (a 42), .int (q 43), .int (q 44)] x1 (q 7) rfl (by omega)) (cwV 1 hts gX13_unlike_X13_isClause rfl rfl rfl hv_X13_isClause ⟨Nat.le_of_ble_eq_true rfl, Nat.le_of_ble_eq_true rfl⟩) (pR_V (q := (RX13, TX13, 45)) (ci := 10) (q0 := 0) hP hE rfl rfl [0] rfl) rfl rfl hl.1 rfl (lv_room (Nat.le_of_ble_eq_true rfl)) dX13_unlike_2 ⟨Nat.le_of_ble_eq_true rfl, Nat.le_of_ble_eq_true rfl⟩) (fun r_1 hr_1 => ?_)
  rcases bool_post hr_1 with ⟨c_2, rfl⟩ | ⟨c_2, rfl⟩
  · refine lv_if_eq (tgt := 16) hx hb dX13_unlike_5 (by decide +kernel) (fun c9 => absurd c9 (by decide +kernel)) (fun _ => ?_)
    refine lv_aload_n hx hb dX13_unlike_8 rfl (lv_at hl 0 rfl) ?_
    refine lv_iload_n hx hb dX13_unlike_9 rfl (lv_at hl 2 rfl) ?_
    refine vp_callSi (W.runV (As := [.int x2]) (rest := []) ⟨hx, hb, hml, hown, hts⟩ (c_X13_isClause l D T h0 [.int (q 0), .int (q 1), .int (q 2), .int (q 3), .int (q 4), .int (q 5), .int (q 6), .int (q 7), .ref (a 8), .ref (a 9), .ref (a 10), .ref (a 11), .ref (a 12), .ref (a 13), .int (q 14), .long v, .long w, .ref (a 17), .ref (a 18), .ref (a 19), .ref (a 20), .ref (a 21), .ref (a 22), .ref (a 23), .int (q 24), .ref (a 25), .int (q 26), .ref (a 27), .int (q 28), .int (q 29), .int (q 30), .int (q 31), .int (q 32), .int (q 33), .ref (a 34), .ref (a 35), .ref (a 36), .ref (a 37), .ref (a 38), .ref (a 39), .ref (a 40), .int (q 41), .ref (a 42), .int (q 43), .int (q 44)] x2 (q 7) rfl (by omega)) (cwV 1 hts gX13_unlike_X13_isClause rfl rfl rfl hv_X13_isClause ⟨Nat.le_of_ble_eq_true rfl, Nat.le_of_ble_eq_true rfl⟩) (pR_V (q := (RX13, TX13, 45)) (ci := 10) (q0 := 0) hP hE rfl rfl [0] rfl) rfl rfl hl.1 rfl (lv_room (Nat.le_of_ble_eq_true rfl)) dX13_unlike_10 ⟨Nat.le_of_ble_eq_true rfl, Nat.le_of_ble_eq_true rfl⟩) (fun r_3 hr_3 => ?_)
    rcases bool_post hr_3 with ⟨c_4, rfl⟩ | ⟨c_4, rfl⟩
    · refine lv_if_ne (tgt := 19) hx hb dX13_unlike_13 (by decide +kernel) (fun _ => ?_) (fun c9 => absurd c9 (by decide +kernel))
      refine lv_aload_n hx hb dX13_unlike_19 rfl (lv_at hl 0 rfl) ?_
      refine lv_iload_n hx hb dX13_unlike_20 rfl (lv_at hl 1 rfl) ?_
      refine lv_iload_n hx hb dX13_unlike_21 rfl (lv_at hl 2 rfl) ?_
      refine lv_icmp_le (tgt := 29) hx hb dX13_unlike_22 (by decide +kernel) (fun c_5 => ?_) (fun c_5 => ?_)
      · rw [fa_le] at c_5
        refine lv_iload_n hx hb dX13_unlike_29 rfl (lv_at hl 2 rfl) ?_
        have hFc := va_free (wc := [(h0, .inr (10, (Value.int (q 0) :: Value.int (q 1) :: Value.int (q 2) :: Value.int (q 3) :: Value.int (q 4) :: Value.int (q 5) :: Value.int (q 6) :: Value.int (q 7) :: Value.ref (a 8) :: Value.ref (a 9) :: Value.ref (a 10) :: Value.ref (a 11) :: Value.ref (a 12) :: Value.ref (a 13) :: Value.int (q 14) :: Value.long v :: Value.long w :: Value.ref (a 17) :: Value.ref (a 18) :: Value.ref (a 19) :: Value.ref (a 20) :: Value.ref (a 21) :: Value.ref (a 22) :: Value.ref (a 23) :: Value.int (q 24) :: Value.ref (a 25) :: Value.int (q 26) :: Value.ref (a 27) :: Value.int (q 28) :: Value.int (q 29) :: Value.int (q 30) :: Value.int (q 31) :: Value.int (q 32) :: Value.int (q 33) :: Value.ref (a 34) :: Value.ref (a 35) :: Value.ref (a 36) :: Value.ref (a 37) :: Value.ref (a 38) :: Value.ref (a 39) :: Value.ref (a 40) :: Value.int (q 41) :: Value.ref (a 42) :: Value.int (q 43) :: Value.int (q 44) :: []))), ((a 8), .inl (T 0, 24, .inl f8)), ((a 9), .inl (T 0, 24, .inl f9)), ((a 10), .inl (T 0, 24, .inl f10)), ((a 11), .inl (T 0, 24, .inl f11)), ((a 17), .inl (T 0, 24, .inl f17)), ((a 18), .inl (T 0, 24, .inl f18)), ((a 19), .inl (T 0, 24, .inl f19)), ((a 20), .inl (T 1, 672, .inr (.inl f20))), ((a 21), .inl (T 1, 672, .inr (.inl f21))), ((a 22), .inl (T 4, 672, .inl f22))]) hD hS hA [0, 1, 2, 3, 4, 5, 6, 7, 8, 9, 10] rfl
        refine va_callv (va_runV (As := [.int x2]) (rest := []) ⟨hx, hb, hml, hown, hts⟩ (c_X13_laysWorths l D T _ h0 q v w a f8 f9 f10 f11 f17 f18 f19 f20 f21 f22 x2 (show 0 ≤ (q 7).toInt ∧ (q 7).toInt ≤ 24 from (by omega)) (show okR f8 f10 f11 from hokR) (show ∀ j : Nat, isB (f22 j) from hZ) (show (1 ≤ (q 4).toInt ∧ (q 4).toInt ≤ 9) ∧ 1 ≤ (q 6).toInt ∧ (q 6).toInt ≤ 9 from (by omega)) (show -1 ≤ x2.toInt ∧ x2.toInt < (q 7).toInt from (by omega))) (cwV 1 hts gX13_unlike_X13_laysWorths rfl rfl rfl hv_X13_laysWorths ⟨Nat.le_of_ble_eq_true rfl, Nat.le_of_ble_eq_true rfl⟩) (pW_V (q := (RX13, TX13, 45)) (ci := 10) (q0 := 0) hP hE hD rfl rfl [0, 1, 2, 3, 4, 5, 6, 7, 8, 9, 10] (by decide +kernel) rfl rfl) rfl rfl hl.1 rfl (lv_room (Nat.le_of_ble_eq_true rfl)) dX13_unlike_30 ⟨Nat.le_of_ble_eq_true rfl, Nat.le_of_ble_eq_true rfl⟩) hS (fun q _ h => hFc q h) hFc (fun u_7 t H1 locs ht hvm hr_6 hB hz1 hk1 hS => ?_)
        obtain ⟨l_8, l_9, f_10, f_11, f_12, f_13, f_14, f_15⟩ := u_7
        obtain ⟨hi0_r_6, hi1_r_6, hi2_r_6, hi3_r_6, hi4_r_6⟩ := hr_6
        have hZ : ∀ j : Nat, isB (f_15 j) := hi0_r_6
        have hEE : okE f8 f10 f_10 (q 7).toInt := hi1_r_6
        have hW1 : ∀ j : Nat, (j : Int) < 28 * (x2.toInt + 1) → 1 ≤ (f_14 j).toInt := hi2_r_6
        have hTV : ∀ y t s : Int32, spK t s → 0 ≤ y.toInt → y.toInt ≤ x2.toInt → tabW f_13 f_14 f_15 y t s = VALW (lqW (q 0) (q 1) (q 2) (q 3) (q 4) (q 5) (q 6)) f8 f9 f10 f11 f_10 y t s := hi3_r_6
        have hMEr : ∀ j : Nat, (j : Int) < (q 7).toInt → mesP f8 f9 f10 f11 f_10 f_11 f_12 j := hi4_r_6
        obtain ⟨hP1, hD1⟩ := hB
        rw [ht] at hP1
        obtain ⟨hP, hD⟩ := va_repl [(h0, .inr (10, (Value.int (q 0) :: Value.int (q 1) :: Value.int (q 2) :: Value.int (q 3) :: Value.int (q 4) :: Value.int (q 5) :: Value.int (q 6) :: Value.int (q 7) :: Value.ref (a 8) :: Value.ref (a 9) :: Value.ref (a 10) :: Value.ref (a 11) :: Value.ref (a 12) :: Value.ref (a 13) :: Value.int 0 :: Value.long l_8 :: Value.long l_9 :: Value.ref (a 17) :: Value.ref (a 18) :: Value.ref (a 19) :: Value.ref (a 20) :: Value.ref (a 21) :: Value.ref (a 22) :: Value.ref (a 23) :: Value.int (q 24) :: Value.ref (a 25) :: Value.int (q 26) :: Value.ref (a 27) :: Value.int (q 28) :: Value.int (q 29) :: Value.int (q 30) :: Value.int (q 31) :: Value.int (q 32) :: Value.int (q 33) :: Value.ref (a 34) :: Value.ref (a 35) :: Value.ref (a 36) :: Value.ref (a 37) :: Value.ref (a 38) :: Value.ref (a 39) :: Value.ref (a 40) :: Value.int (q 41) :: Value.ref (a 42) :: Value.int (q 43) :: Value.int (q 44) :: []))), ((a 8), .inl (T 0, 24, .inl f8)), ((a 9), .inl (T 0, 24, .inl f9)), ((a 10), .inl (T 0, 24, .inl f10)), ((a 11), .inl (T 0, 24, .inl f11)), ((a 17), .inl (T 0, 24, .inl f_10)), ((a 18), .inl (T 0, 24, .inl f_11)), ((a 19), .inl (T 0, 24, .inl f_12)), ((a 20), .inl (T 1, 672, .inr (.inl f_13))), ((a 21), .inl (T 1, 672, .inr (.inl f_14))), ((a 22), .inl (T 4, 672, .inl f_15))] hP hD [0, 1, 2, 3, 4, 5, 6, 7, 8, 9, 10] [0, 1, 2, 3, 4, 5, 6, 7, 8, 9, 10] rfl (by decide +kernel) rfl rfl rfl hk1 hP1
        clear hP1 hD1 hFc
        generalize H1 = H at hP hS ⊢
        refine lv_iconst (v := 0) hx hb dX13_unlike_33 (by decide +kernel) ?_
        refine lv_istore_n (lv' := [(3, .int 0), (0, .ref h0), (1, .int x1), (2, .int x2)]) hx hb dX13_unlike_34 rfl hl (by decide +kernel) rfl (fun ls hl => ?_)
        refine loopR (σ := (Int32)) (fun x9 ls => lv_has ls 5 [(3, .int x9), (0, .ref h0), (1, .int x1), (2, .int x2)] ∧ (0 ≤ x9.toInt ∧ (∀ t k : Int32, spK t k → bef x9 0 t k → ¬ mu2 (VALW (lqW (q 0) (q 1) (q 2) (q 3) (q 4) (q 5) (q 6)) f8 f9 f10 f11 f_10) x1 x2 t k ∧ (VALW (lqW (q 0) (q 1) (q 2) (q 3) (q 4) (q 5) (q 6)) f8 f9 f10 f11 f_10) x1 t k = (VALW (lqW (q 0) (q 1) (q 2) (q 3) (q 4) (q 5) (q 6)) f8 f9 f10 f11 f_10) x2 t k))) (fun x9 => (7 - x9.toInt).toNat) (fun x9 ls hI iho => ?_) 0 ls ⟨lv_sub hl [0, 1, 2, 3] rfl, ⟨(by (try dsimp only); decide), bef_0⟩⟩
        obtain ⟨dd, rfl⟩ : ∃ z, z = x9 := ⟨_, rfl⟩
        obtain ⟨hl, hinv⟩ := hI
        have hl : lv_has ls 5 [(3, .int dd), (0, .ref h0), (1, .int x1), (2, .int x2)] := hl
        have hinv : 0 ≤ dd.toInt ∧ (∀ t k : Int32, spK t k → bef dd 0 t k → ¬ mu2 (VALW (lqW (q 0) (q 1) (q 2) (q 3) (q 4) (q 5) (q 6)) f8 f9 f10 f11 f_10) x1 x2 t k ∧ (VALW (lqW (q 0) (q 1) (q 2) (q 3) (q 4) (q 5) (q 6)) f8 f9 f10 f11 f_10) x1 t k = (VALW (lqW (q 0) (q 1) (q 2) (q 3) (q 4) (q 5) (q 6)) f8 f9 f10 f11 f_10) x2 t k) := hinv
        obtain ⟨hdd9, hno⟩ := hinv
        refine lv_iload_n hx hb dX13_unlike_35 rfl (lv_at hl 0 rfl) ?_
        refine lv_bipush (v := 6) hx hb dX13_unlike_36 (by decide +kernel) ?_
        refine lv_icmp_gt (tgt := 107) hx hb dX13_unlike_38 (by decide +kernel) (fun c_16 => ?_) (fun c_16 => ?_)
        · rw [fa_lt] at c_16
          try rw [ti_6] at c_16
          refine lv_iconst (v := (-1)) hx hb dX13_unlike_107 (by decide +kernel) ?_
          exact W.iret hx hb hr (fun t ht hW => ⟨⟨_, (0, l_8, l_9, f_10, f_11, f_12, f_13, f_14, f_15), rfl, ⟨(show isB 0 from isB0), (show ∀ j : Nat, isB (f_15 j) from hZ), (show (0 ≤ x1.toInt ∧ x1.toInt < (q 7).toInt) ∧ 0 ≤ x2.toInt ∧ x2.toInt < (q 7).toInt → ∀ j : Nat, (j : Int) < (q 7).toInt → mesP f8 f9 f10 f11 f_10 f_11 f_12 j from (fun _ => hMEr)), (show unlQ (VALW (lqW (q 0) (q 1) (q 2) (q 3) (q 4) (q 5) (q 6)) f8 f9 f10 f11 f_10) (q 7) x1 x2 ((-1) : Int32) from (Or.inr ⟨⟨⟨(by omega), (by omega)⟩, (by omega), (by omega)⟩, Or.inr ⟨bef_all hno (by omega), (by decide +kernel)⟩⟩))⟩, by rw [ht]; exact hP.sub [0, 1, 2, 3, 4, 5, 6, 7, 8, 9, 10] rfl, hD.sub [0, 1, 2, 3, 4, 5, 6, 7, 8, 9, 10] (by decide +kernel) rfl⟩, hS.F ht⟩) hS.2.2 dX13_unlike_108
        · rw [fa_lt] at c_16
          try rw [ti_6] at c_16
          refine lv_iconst (v := 0) hx hb dX13_unlike_41 (by decide +kernel) ?_
          refine lv_istore (lv' := [(4, .int 0), (3, .int dd), (0, .ref h0), (1, .int x1), (2, .int x2)]) hx hb dX13_unlike_42 hl (by decide +kernel) rfl (fun ls hl => ?_)
          refine loopR (σ := (Int32)) (fun x9 ls => lv_has ls 5 [(4, .int x9), (3, .int dd), (0, .ref h0), (1, .int x1), (2, .int x2)] ∧ (0 ≤ x9.toInt ∧ (∀ t k : Int32, spK t k → bef dd x9 t k → ¬ mu2 (VALW (lqW (q 0) (q 1) (q 2) (q 3) (q 4) (q 5) (q 6)) f8 f9 f10 f11 f_10) x1 x2 t k ∧ (VALW (lqW (q 0) (q 1) (q 2) (q 3) (q 4) (q 5) (q 6)) f8 f9 f10 f11 f_10) x1 t k = (VALW (lqW (q 0) (q 1) (q 2) (q 3) (q 4) (q 5) (q 6)) f8 f9 f10 f11 f_10) x2 t k))) (fun x9 => (8 - x9.toInt).toNat) (fun x9 ls hI ih => ?_) 0 ls ⟨lv_sub hl [0, 1, 2, 3, 4] rfl, ⟨(by (try dsimp only); decide), hno⟩⟩
          obtain ⟨ss, rfl⟩ : ∃ z, z = x9 := ⟨_, rfl⟩
          obtain ⟨hl, hinv⟩ := hI
          have hl : lv_has ls 5 [(4, .int ss), (3, .int dd), (0, .ref h0), (1, .int x1), (2, .int x2)] := hl
          have hinv : 0 ≤ ss.toInt ∧ (∀ t k : Int32, spK t k → bef dd ss t k → ¬ mu2 (VALW (lqW (q 0) (q 1) (q 2) (q 3) (q 4) (q 5) (q 6)) f8 f9 f10 f11 f_10) x1 x2 t k ∧ (VALW (lqW (q 0) (q 1) (q 2) (q 3) (q 4) (q 5) (q 6)) f8 f9 f10 f11 f_10) x1 t k = (VALW (lqW (q 0) (q 1) (q 2) (q 3) (q 4) (q 5) (q 6)) f8 f9 f10 f11 f_10) x2 t k) := hinv
          obtain ⟨hss9, hno⟩ := hinv
          have ht := tri_in (d := dd.toInt) (by omega)
          refine lv_iload hx hb dX13_unlike_44 (lv_at hl 0 rfl) ?_
          refine lv_iload_n hx hb dX13_unlike_46 rfl (lv_at hl 1 rfl) ?_
          refine lv_icmp_gt (tgt := 101) hx hb dX13_unlike_47 (by decide +kernel) (fun c_17 => ?_) (fun c_17 => ?_)
          · rw [fa_lt] at c_17
            obtain ⟨z_18, ez_18⟩ : ∃ y : Int32, y = dd + 1 := ⟨_, rfl⟩
            refine lv_iinc (v := z_18) (lv' := [(3, .int z_18), (4, .int ss), (0, .ref h0), (1, .int x1), (2, .int x2)]) hx hb dX13_unlike_101 hl (k := 1) rfl (by rw [ez_18]; rfl) (by decide +kernel) rfl (fun ls hl => ?_)
            refine lv_goto (tgt := 35) hx hb dX13_unlike_104 (by decide +kernel) ?_
            have hi9 : z_18.toInt = dd.toInt + 1 := by rw [ez_18]; exact inc1 (i := dd) (n := 1000) (by omega) (by decide +kernel)
            exact iho z_18 ls ⟨lv_sub hl [0, 2, 3, 4] rfl, ⟨(by (try dsimp only); omega), bef_row hno (by omega) hi9⟩⟩ (by (try dsimp only); omega)
          · rw [fa_lt] at c_17
            have hv1 : tabW f_13 f_14 f_15 x1 dd ss = (VALW (lqW (q 0) (q 1) (q 2) (q 3) (q 4) (q 5) (q 6)) f8 f9 f10 f11 f_10) x1 dd ss := hTV x1 dd ss ⟨⟨(by omega), (by omega)⟩, (by omega), (by omega)⟩ (by omega) (by omega)
            have hq1 : 1 ≤ (f_14 (slN x1 dd ss)).toInt := hW1 _ (by have h9 := slN_b (c := x1) (x := (x1 + 1)) (t := dd) (k := ss) (by have h8 := inc1 (i := x1) (n := 24) (by omega) (by decide +kernel); omega) ⟨⟨(by omega), (by omega)⟩, (by omega), (by omega)⟩; have h8 := inc1 (i := x1) (n := 24) (by omega) (by decide +kernel); omega)
            have hv2 : tabW f_13 f_14 f_15 x2 dd ss = (VALW (lqW (q 0) (q 1) (q 2) (q 3) (q 4) (q 5) (q 6)) f8 f9 f10 f11 f_10) x2 dd ss := hTV x2 dd ss ⟨⟨(by omega), (by omega)⟩, (by omega), (by omega)⟩ (by omega) (by omega)
            have hq2 : 1 ≤ (f_14 (slN x2 dd ss)).toInt := hW1 _ (by have h9 := slN_b (c := x2) (x := (x2 + 1)) (t := dd) (k := ss) (by have h8 := inc1 (i := x2) (n := 24) (by omega) (by decide +kernel); omega) ⟨⟨(by omega), (by omega)⟩, (by omega), (by omega)⟩; have h8 := inc1 (i := x2) (n := 24) (by omega) (by decide +kernel); omega)
            refine lv_aload_n hx hb dX13_unlike_50 rfl (lv_at hl 2 rfl) ?_
            refine lv_iload_n hx hb dX13_unlike_51 rfl (lv_at hl 3 rfl) ?_
            refine lv_iload_n hx hb dX13_unlike_52 rfl (lv_at hl 1 rfl) ?_
            refine lv_iload hx hb dX13_unlike_53 (lv_at hl 0 rfl) ?_
            refine vp_callSi (W.runV (As := [.int x1, .int dd, .int ss]) (rest := []) ⟨hx, hb, hml, hown, hts⟩ (c_X13_isMuchAt l D T h0 [.int (q 0), .int (q 1), .int (q 2), .int (q 3), .int (q 4), .int (q 5), .int (q 6), .int (q 7), .ref (a 8), .ref (a 9), .ref (a 10), .ref (a 11), .ref (a 12), .ref (a 13), .int 0, .long l_8, .long l_9, .ref (a 17), .ref (a 18), .ref (a 19), .ref (a 20), .ref (a 21), .ref (a 22), .ref (a 23), .int (q 24), .ref (a 25), .int (q 26), .ref (a 27), .int (q 28), .int (q 29), .int (q 30), .int (q 31), .int (q 32), .int (q 33), .ref (a 34), .ref (a 35), .ref (a 36), .ref (a 37), .ref (a 38), .ref (a 39), .ref (a 40), .int (q 41), .ref (a 42), .int (q 43), .int (q 44)] (a 22) f_15 x1 dd ss rfl hZ (by omega) (by omega) (by omega)) (cwV 3 hts gX13_unlike_X13_isMuchAt rfl rfl rfl hv_X13_isMuchAt ⟨Nat.le_of_ble_eq_true rfl, Nat.le_of_ble_eq_true rfl⟩) (pR_V (q := (RX13, TX13, 45)) (ci := 10) (q0 := 0) hP hE rfl rfl [0, 10] rfl) rfl rfl hl.1 rfl (lv_room (Nat.le_of_ble_eq_true rfl)) dX13_unlike_55 ⟨Nat.le_of_ble_eq_true rfl, Nat.le_of_ble_eq_true rfl⟩) (fun r_19 hr_19 => ?_)
            refine lv_if_ne (tgt := 72) hx hb dX13_unlike_58 (by decide +kernel) (fun c_20 => ?_) (fun c_20 => ?_)
            · rw [fa_eq] at c_20
              try rw [ti_0] at c_20
              refine lv_bipush (v := (-5)) hx hb dX13_unlike_72 (by decide +kernel) ?_
              exact W.iret hx hb hr (fun t ht hW => ⟨⟨_, (0, l_8, l_9, f_10, f_11, f_12, f_13, f_14, f_15), rfl, ⟨(show isB 0 from isB0), (show ∀ j : Nat, isB (f_15 j) from hZ), (show (0 ≤ x1.toInt ∧ x1.toInt < (q 7).toInt) ∧ 0 ≤ x2.toInt ∧ x2.toInt < (q 7).toInt → ∀ j : Nat, (j : Int) < (q 7).toInt → mesP f8 f9 f10 f11 f_10 f_11 f_12 j from (fun _ => hMEr)), (show unlQ (VALW (lqW (q 0) (q 1) (q 2) (q 3) (q 4) (q 5) (q 6)) f8 f9 f10 f11 f_10) (q 7) x1 x2 ((-5) : Int32) from (Or.inr ⟨⟨⟨(by omega), (by omega)⟩, (by omega), (by omega)⟩, Or.inl ⟨dd, ss, ⟨⟨(by omega), (by omega)⟩, (by omega), (by omega)⟩, hno, Or.inl ⟨Or.inl (m0_of hv1 hr_19.2 (by omega)), (by decide +kernel)⟩⟩⟩))⟩, by rw [ht]; exact hP.sub [0, 1, 2, 3, 4, 5, 6, 7, 8, 9, 10] rfl, hD.sub [0, 1, 2, 3, 4, 5, 6, 7, 8, 9, 10] (by decide +kernel) rfl⟩, hS.F ht⟩) hS.2.2 dX13_unlike_74
            · rw [fa_eq] at c_20
              try rw [ti_0] at c_20
              refine lv_aload_n hx hb dX13_unlike_61 rfl (lv_at hl 2 rfl) ?_
              refine lv_iload_n hx hb dX13_unlike_62 rfl (lv_at hl 4 rfl) ?_
              refine lv_iload_n hx hb dX13_unlike_63 rfl (lv_at hl 1 rfl) ?_
              refine lv_iload hx hb dX13_unlike_64 (lv_at hl 0 rfl) ?_
              refine vp_callSi (W.runV (As := [.int x2, .int dd, .int ss]) (rest := []) ⟨hx, hb, hml, hown, hts⟩ (c_X13_isMuchAt l D T h0 [.int (q 0), .int (q 1), .int (q 2), .int (q 3), .int (q 4), .int (q 5), .int (q 6), .int (q 7), .ref (a 8), .ref (a 9), .ref (a 10), .ref (a 11), .ref (a 12), .ref (a 13), .int 0, .long l_8, .long l_9, .ref (a 17), .ref (a 18), .ref (a 19), .ref (a 20), .ref (a 21), .ref (a 22), .ref (a 23), .int (q 24), .ref (a 25), .int (q 26), .ref (a 27), .int (q 28), .int (q 29), .int (q 30), .int (q 31), .int (q 32), .int (q 33), .ref (a 34), .ref (a 35), .ref (a 36), .ref (a 37), .ref (a 38), .ref (a 39), .ref (a 40), .int (q 41), .ref (a 42), .int (q 43), .int (q 44)] (a 22) f_15 x2 dd ss rfl hZ (by omega) (by omega) (by omega)) (cwV 3 hts gX13_unlike_X13_isMuchAt rfl rfl rfl hv_X13_isMuchAt ⟨Nat.le_of_ble_eq_true rfl, Nat.le_of_ble_eq_true rfl⟩) (pR_V (q := (RX13, TX13, 45)) (ci := 10) (q0 := 0) hP hE rfl rfl [0, 10] rfl) rfl rfl hl.1 rfl (lv_room (Nat.le_of_ble_eq_true rfl)) dX13_unlike_66 ⟨Nat.le_of_ble_eq_true rfl, Nat.le_of_ble_eq_true rfl⟩) (fun r_21 hr_21 => ?_)
              refine lv_if_eq (tgt := 75) hx hb dX13_unlike_69 (by decide +kernel) (fun c_22 => ?_) (fun c_22 => ?_)
              · rw [fa_eq] at c_22
                try rw [ti_0] at c_22
                refine lv_aload_n hx hb dX13_unlike_75 rfl (lv_at hl 2 rfl) ?_
                refine lv_iload_n hx hb dX13_unlike_76 rfl (lv_at hl 3 rfl) ?_
                refine lv_iload_n hx hb dX13_unlike_77 rfl (lv_at hl 4 rfl) ?_
                refine lv_iload_n hx hb dX13_unlike_78 rfl (lv_at hl 1 rfl) ?_
                refine lv_iload hx hb dX13_unlike_79 (lv_at hl 0 rfl) ?_
                refine vp_callSi (W.runV (As := [.int x1, .int x2, .int dd, .int ss]) (rest := []) ⟨hx, hb, hml, hown, hts⟩ (c_X13_comparedAt l D T h0 [.int (q 0), .int (q 1), .int (q 2), .int (q 3), .int (q 4), .int (q 5), .int (q 6), .int (q 7), .ref (a 8), .ref (a 9), .ref (a 10), .ref (a 11), .ref (a 12), .ref (a 13), .int 0, .long l_8, .long l_9, .ref (a 17), .ref (a 18), .ref (a 19), .ref (a 20), .ref (a 21), .ref (a 22), .ref (a 23), .int (q 24), .ref (a 25), .int (q 26), .ref (a 27), .int (q 28), .int (q 29), .int (q 30), .int (q 31), .int (q 32), .int (q 33), .ref (a 34), .ref (a 35), .ref (a 36), .ref (a 37), .ref (a 38), .ref (a 39), .ref (a 40), .int (q 41), .ref (a 42), .int (q 43), .int (q 44)] (a 20) f_13 (a 21) f_14 x1 x2 dd ss rfl rfl (by omega) (by omega) (by omega) (by omega) (fun j hj => hW1 j (by omega)) (fun j hj => hW1 j (by omega))) (cwV 4 hts gX13_unlike_X13_comparedAt rfl rfl rfl hv_X13_comparedAt ⟨Nat.le_of_ble_eq_true rfl, Nat.le_of_ble_eq_true rfl⟩) (pR_V (q := (RX13, TX13, 45)) (ci := 10) (q0 := 0) hP hE rfl rfl [0, 8, 9] rfl) rfl rfl hl.1 rfl (lv_room (Nat.le_of_ble_eq_true rfl)) dX13_unlike_81 ⟨Nat.le_of_ble_eq_true rfl, Nat.le_of_ble_eq_true rfl⟩) (fun r_23 hr_23 => ?_)
                have hna9 : ¬ ((VALW (lqW (q 0) (q 1) (q 2) (q 3) (q 4) (q 5) (q 6)) f8 f9 f10 f11 f_10) x1 dd ss).2.toInt = 0 := m1_of hv1 hr_19.2 hq1 (by omega)
                have hnb9 : ¬ ((VALW (lqW (q 0) (q 1) (q 2) (q 3) (q 4) (q 5) (q 6)) f8 f9 f10 f11 f_10) x2 dd ss).2.toInt = 0 := m1_of hv2 hr_21.2 hq2 (by omega)
                have hnm9 : ¬ mu2 (VALW (lqW (q 0) (q 1) (q 2) (q 3) (q 4) (q 5) (q 6)) f8 f9 f10 f11 f_10) x1 x2 dd ss := fun h9 => h9.elim hna9 hnb9
                have hco9 : cmpP ((VALW (lqW (q 0) (q 1) (q 2) (q 3) (q 4) (q 5) (q 6)) f8 f9 f10 f11 f_10) x1 dd ss) ((VALW (lqW (q 0) (q 1) (q 2) (q 3) (q 4) (q 5) (q 6)) f8 f9 f10 f11 f_10) x2 dd ss) = r_23.toInt := cm_of hv1 hv2 hq1 hq2 hr_23 hna9 hnb9
                refine lv_if_eq (tgt := 95) hx hb dX13_unlike_84 (by decide +kernel) (fun c_24 => ?_) (fun c_24 => ?_)
                · rw [fa_eq] at c_24
                  try rw [ti_0] at c_24
                  obtain ⟨z_25, ez_25⟩ : ∃ y : Int32, y = ss + 1 := ⟨_, rfl⟩
                  refine lv_iinc (v := z_25) (lv' := [(4, .int z_25), (3, .int dd), (0, .ref h0), (1, .int x1), (2, .int x2)]) hx hb dX13_unlike_95 hl (k := 0) rfl (by rw [ez_25]; rfl) (by decide +kernel) rfl (fun ls hl => ?_)
                  refine lv_goto (tgt := 44) hx hb dX13_unlike_98 (by decide +kernel) ?_
                  have hi9 : z_25.toInt = ss.toInt + 1 := by rw [ez_25]; exact inc1 (i := ss) (n := 1000) (by omega) (by decide +kernel)
                  exact ih z_25 ls ⟨lv_sub hl [0, 1, 2, 3, 4] rfl, ⟨(by (try dsimp only); omega), bef_step hno ⟨hnm9, low_eq (VAL_low (l := lqW (q 0) (q 1) (q 2) (q 3) (q 4) (q 5) (q 6)) hL.1 hL.2 31 _ _ _) (VAL_low (l := lqW (q 0) (q 1) (q 2) (q 3) (q 4) (q 5) (q 6)) hL.1 hL.2 31 _ _ _) hna9 hnb9 (by rw [hco9]; omega)⟩ hi9⟩⟩ (by (try dsimp only); omega)
                · rw [fa_eq] at c_24
                  try rw [ti_0] at c_24
                  refine lv_bipush (v := 10) hx hb dX13_unlike_87 (by decide +kernel) ?_
                  refine lv_iload_n hx hb dX13_unlike_89 rfl (lv_at hl 1 rfl) ?_
                  refine lv_imul hx hb dX13_unlike_90 ?_
                  refine lv_iload hx hb dX13_unlike_91 (lv_at hl 0 rfl) ?_
                  refine lv_iadd hx hb dX13_unlike_93 ?_
                  exact W.iret hx hb hr (fun t ht hW => ⟨⟨_, (0, l_8, l_9, f_10, f_11, f_12, f_13, f_14, f_15), rfl, ⟨(show isB 0 from isB0), (show ∀ j : Nat, isB (f_15 j) from hZ), (show (0 ≤ x1.toInt ∧ x1.toInt < (q 7).toInt) ∧ 0 ≤ x2.toInt ∧ x2.toInt < (q 7).toInt → ∀ j : Nat, (j : Int) < (q 7).toInt → mesP f8 f9 f10 f11 f_10 f_11 f_12 j from (fun _ => hMEr)), (show unlQ (VALW (lqW (q 0) (q 1) (q 2) (q 3) (q 4) (q 5) (q 6)) f8 f9 f10 f11 f_10) (q 7) x1 x2 ((10 * dd) + ss) from (Or.inr ⟨⟨⟨(by omega), (by omega)⟩, (by omega), (by omega)⟩, Or.inl ⟨dd, ss, ⟨⟨(by omega), (by omega)⟩, (by omega), (by omega)⟩, hno, Or.inr ⟨hnm9, (fun h9 => by rw [h9, cmpP_refl] at hco9; omega), (by first | exact ul_num (by omega) (by omega) | (rw [ez]; exact ul_num (by omega) (by omega)))⟩⟩⟩))⟩, by rw [ht]; exact hP.sub [0, 1, 2, 3, 4, 5, 6, 7, 8, 9, 10] rfl, hD.sub [0, 1, 2, 3, 4, 5, 6, 7, 8, 9, 10] (by decide +kernel) rfl⟩, hS.F ht⟩) hS.2.2 dX13_unlike_94
              · rw [fa_eq] at c_22
                try rw [ti_0] at c_22
                refine lv_bipush (v := (-5)) hx hb dX13_unlike_72 (by decide +kernel) ?_
                exact W.iret hx hb hr (fun t ht hW => ⟨⟨_, (0, l_8, l_9, f_10, f_11, f_12, f_13, f_14, f_15), rfl, ⟨(show isB 0 from isB0), (show ∀ j : Nat, isB (f_15 j) from hZ), (show (0 ≤ x1.toInt ∧ x1.toInt < (q 7).toInt) ∧ 0 ≤ x2.toInt ∧ x2.toInt < (q 7).toInt → ∀ j : Nat, (j : Int) < (q 7).toInt → mesP f8 f9 f10 f11 f_10 f_11 f_12 j from (fun _ => hMEr)), (show unlQ (VALW (lqW (q 0) (q 1) (q 2) (q 3) (q 4) (q 5) (q 6)) f8 f9 f10 f11 f_10) (q 7) x1 x2 ((-5) : Int32) from (Or.inr ⟨⟨⟨(by omega), (by omega)⟩, (by omega), (by omega)⟩, Or.inl ⟨dd, ss, ⟨⟨(by omega), (by omega)⟩, (by omega), (by omega)⟩, hno, Or.inl ⟨Or.inr (m0_of hv2 hr_21.2 (by omega)), (by decide +kernel)⟩⟩⟩))⟩, by rw [ht]; exact hP.sub [0, 1, 2, 3, 4, 5, 6, 7, 8, 9, 10] rfl, hD.sub [0, 1, 2, 3, 4, 5, 6, 7, 8, 9, 10] (by decide +kernel) rfl⟩, hS.F ht⟩) hS.2.2 dX13_unlike_74
      · rw [fa_le] at c_5
        refine lv_iload_n hx hb dX13_unlike_25 rfl (lv_at hl 1 rfl) ?_
        refine lv_goto (tgt := 30) hx hb dX13_unlike_26 (by decide +kernel) ?_
        have hFc := va_free (wc := [(h0, .inr (10, (Value.int (q 0) :: Value.int (q 1) :: Value.int (q 2) :: Value.int (q 3) :: Value.int (q 4) :: Value.int (q 5) :: Value.int (q 6) :: Value.int (q 7) :: Value.ref (a 8) :: Value.ref (a 9) :: Value.ref (a 10) :: Value.ref (a 11) :: Value.ref (a 12) :: Value.ref (a 13) :: Value.int (q 14) :: Value.long v :: Value.long w :: Value.ref (a 17) :: Value.ref (a 18) :: Value.ref (a 19) :: Value.ref (a 20) :: Value.ref (a 21) :: Value.ref (a 22) :: Value.ref (a 23) :: Value.int (q 24) :: Value.ref (a 25) :: Value.int (q 26) :: Value.ref (a 27) :: Value.int (q 28) :: Value.int (q 29) :: Value.int (q 30) :: Value.int (q 31) :: Value.int (q 32) :: Value.int (q 33) :: Value.ref (a 34) :: Value.ref (a 35) :: Value.ref (a 36) :: Value.ref (a 37) :: Value.ref (a 38) :: Value.ref (a 39) :: Value.ref (a 40) :: Value.int (q 41) :: Value.ref (a 42) :: Value.int (q 43) :: Value.int (q 44) :: []))), ((a 8), .inl (T 0, 24, .inl f8)), ((a 9), .inl (T 0, 24, .inl f9)), ((a 10), .inl (T 0, 24, .inl f10)), ((a 11), .inl (T 0, 24, .inl f11)), ((a 17), .inl (T 0, 24, .inl f17)), ((a 18), .inl (T 0, 24, .inl f18)), ((a 19), .inl (T 0, 24, .inl f19)), ((a 20), .inl (T 1, 672, .inr (.inl f20))), ((a 21), .inl (T 1, 672, .inr (.inl f21))), ((a 22), .inl (T 4, 672, .inl f22))]) hD hS hA [0, 1, 2, 3, 4, 5, 6, 7, 8, 9, 10] rfl
        refine va_callv (va_runV (As := [.int x1]) (rest := []) ⟨hx, hb, hml, hown, hts⟩ (c_X13_laysWorths l D T _ h0 q v w a f8 f9 f10 f11 f17 f18 f19 f20 f21 f22 x1 (show 0 ≤ (q 7).toInt ∧ (q 7).toInt ≤ 24 from (by omega)) (show okR f8 f10 f11 from hokR) (show ∀ j : Nat, isB (f22 j) from hZ) (show (1 ≤ (q 4).toInt ∧ (q 4).toInt ≤ 9) ∧ 1 ≤ (q 6).toInt ∧ (q 6).toInt ≤ 9 from (by omega)) (show -1 ≤ x1.toInt ∧ x1.toInt < (q 7).toInt from (by omega))) (cwV 1 hts gX13_unlike_X13_laysWorths rfl rfl rfl hv_X13_laysWorths ⟨Nat.le_of_ble_eq_true rfl, Nat.le_of_ble_eq_true rfl⟩) (pW_V (q := (RX13, TX13, 45)) (ci := 10) (q0 := 0) hP hE hD rfl rfl [0, 1, 2, 3, 4, 5, 6, 7, 8, 9, 10] (by decide +kernel) rfl rfl) rfl rfl hl.1 rfl (lv_room (Nat.le_of_ble_eq_true rfl)) dX13_unlike_30 ⟨Nat.le_of_ble_eq_true rfl, Nat.le_of_ble_eq_true rfl⟩) hS (fun q _ h => hFc q h) hFc (fun u_27 t H1 locs ht hvm hr_26 hB hz1 hk1 hS => ?_)
        obtain ⟨l_28, l_29, f_30, f_31, f_32, f_33, f_34, f_35⟩ := u_27
        obtain ⟨hi0_r_26, hi1_r_26, hi2_r_26, hi3_r_26, hi4_r_26⟩ := hr_26
        have hZ : ∀ j : Nat, isB (f_35 j) := hi0_r_26
        have hEE : okE f8 f10 f_30 (q 7).toInt := hi1_r_26
        have hW1 : ∀ j : Nat, (j : Int) < 28 * (x1.toInt + 1) → 1 ≤ (f_34 j).toInt := hi2_r_26
        have hTV : ∀ y t s : Int32, spK t s → 0 ≤ y.toInt → y.toInt ≤ x1.toInt → tabW f_33 f_34 f_35 y t s = VALW (lqW (q 0) (q 1) (q 2) (q 3) (q 4) (q 5) (q 6)) f8 f9 f10 f11 f_30 y t s := hi3_r_26
        have hMEr : ∀ j : Nat, (j : Int) < (q 7).toInt → mesP f8 f9 f10 f11 f_30 f_31 f_32 j := hi4_r_26
        obtain ⟨hP1, hD1⟩ := hB
        rw [ht] at hP1
        obtain ⟨hP, hD⟩ := va_repl [(h0, .inr (10, (Value.int (q 0) :: Value.int (q 1) :: Value.int (q 2) :: Value.int (q 3) :: Value.int (q 4) :: Value.int (q 5) :: Value.int (q 6) :: Value.int (q 7) :: Value.ref (a 8) :: Value.ref (a 9) :: Value.ref (a 10) :: Value.ref (a 11) :: Value.ref (a 12) :: Value.ref (a 13) :: Value.int 0 :: Value.long l_28 :: Value.long l_29 :: Value.ref (a 17) :: Value.ref (a 18) :: Value.ref (a 19) :: Value.ref (a 20) :: Value.ref (a 21) :: Value.ref (a 22) :: Value.ref (a 23) :: Value.int (q 24) :: Value.ref (a 25) :: Value.int (q 26) :: Value.ref (a 27) :: Value.int (q 28) :: Value.int (q 29) :: Value.int (q 30) :: Value.int (q 31) :: Value.int (q 32) :: Value.int (q 33) :: Value.ref (a 34) :: Value.ref (a 35) :: Value.ref (a 36) :: Value.ref (a 37) :: Value.ref (a 38) :: Value.ref (a 39) :: Value.ref (a 40) :: Value.int (q 41) :: Value.ref (a 42) :: Value.int (q 43) :: Value.int (q 44) :: []))), ((a 8), .inl (T 0, 24, .inl f8)), ((a 9), .inl (T 0, 24, .inl f9)), ((a 10), .inl (T 0, 24, .inl f10)), ((a 11), .inl (T 0, 24, .inl f11)), ((a 17), .inl (T 0, 24, .inl f_30)), ((a 18), .inl (T 0, 24, .inl f_31)), ((a 19), .inl (T 0, 24, .inl f_32)), ((a 20), .inl (T 1, 672, .inr (.inl f_33))), ((a 21), .inl (T 1, 672, .inr (.inl f_34))), ((a 22), .inl (T 4, 672, .inl f_35))] hP hD [0, 1, 2, 3, 4, 5, 6, 7, 8, 9, 10] [0, 1, 2, 3, 4, 5, 6, 7, 8, 9, 10] rfl (by decide +kernel) rfl rfl rfl hk1 hP1
        clear hP1 hD1 hFc
        generalize H1 = H at hP hS ⊢
        refine lv_iconst (v := 0) hx hb dX13_unlike_33 (by decide +kernel) ?_
        refine lv_istore_n (lv' := [(3, .int 0), (0, .ref h0), (1, .int x1), (2, .int x2)]) hx hb dX13_unlike_34 rfl hl (by decide +kernel) rfl (fun ls hl => ?_)
        refine loopR (σ := (Int32)) (fun x9 ls => lv_has ls 5 [(3, .int x9), (0, .ref h0), (1, .int x1), (2, .int x2)] ∧ (0 ≤ x9.toInt ∧ (∀ t k : Int32, spK t k → bef x9 0 t k → ¬ mu2 (VALW (lqW (q 0) (q 1) (q 2) (q 3) (q 4) (q 5) (q 6)) f8 f9 f10 f11 f_30) x1 x2 t k ∧ (VALW (lqW (q 0) (q 1) (q 2) (q 3) (q 4) (q 5) (q 6)) f8 f9 f10 f11 f_30) x1 t k = (VALW (lqW (q 0) (q 1) (q 2) (q 3) (q 4) (q 5) (q 6)) f8 f9 f10 f11 f_30) x2 t k))) (fun x9 => (7 - x9.toInt).toNat) (fun x9 ls hI iho => ?_) 0 ls ⟨lv_sub hl [0, 1, 2, 3] rfl, ⟨(by (try dsimp only); decide), bef_0⟩⟩
        obtain ⟨dd, rfl⟩ : ∃ z, z = x9 := ⟨_, rfl⟩
        obtain ⟨hl, hinv⟩ := hI
        have hl : lv_has ls 5 [(3, .int dd), (0, .ref h0), (1, .int x1), (2, .int x2)] := hl
        have hinv : 0 ≤ dd.toInt ∧ (∀ t k : Int32, spK t k → bef dd 0 t k → ¬ mu2 (VALW (lqW (q 0) (q 1) (q 2) (q 3) (q 4) (q 5) (q 6)) f8 f9 f10 f11 f_30) x1 x2 t k ∧ (VALW (lqW (q 0) (q 1) (q 2) (q 3) (q 4) (q 5) (q 6)) f8 f9 f10 f11 f_30) x1 t k = (VALW (lqW (q 0) (q 1) (q 2) (q 3) (q 4) (q 5) (q 6)) f8 f9 f10 f11 f_30) x2 t k) := hinv
        obtain ⟨hdd9, hno⟩ := hinv
        refine lv_iload_n hx hb dX13_unlike_35 rfl (lv_at hl 0 rfl) ?_
        refine lv_bipush (v := 6) hx hb dX13_unlike_36 (by decide +kernel) ?_
        refine lv_icmp_gt (tgt := 107) hx hb dX13_unlike_38 (by decide +kernel) (fun c_36 => ?_) (fun c_36 => ?_)
        · rw [fa_lt] at c_36
          try rw [ti_6] at c_36
          refine lv_iconst (v := (-1)) hx hb dX13_unlike_107 (by decide +kernel) ?_
          exact W.iret hx hb hr (fun t ht hW => ⟨⟨_, (0, l_28, l_29, f_30, f_31, f_32, f_33, f_34, f_35), rfl, ⟨(show isB 0 from isB0), (show ∀ j : Nat, isB (f_35 j) from hZ), (show (0 ≤ x1.toInt ∧ x1.toInt < (q 7).toInt) ∧ 0 ≤ x2.toInt ∧ x2.toInt < (q 7).toInt → ∀ j : Nat, (j : Int) < (q 7).toInt → mesP f8 f9 f10 f11 f_30 f_31 f_32 j from (fun _ => hMEr)), (show unlQ (VALW (lqW (q 0) (q 1) (q 2) (q 3) (q 4) (q 5) (q 6)) f8 f9 f10 f11 f_30) (q 7) x1 x2 ((-1) : Int32) from (Or.inr ⟨⟨⟨(by omega), (by omega)⟩, (by omega), (by omega)⟩, Or.inr ⟨bef_all hno (by omega), (by decide +kernel)⟩⟩))⟩, by rw [ht]; exact hP.sub [0, 1, 2, 3, 4, 5, 6, 7, 8, 9, 10] rfl, hD.sub [0, 1, 2, 3, 4, 5, 6, 7, 8, 9, 10] (by decide +kernel) rfl⟩, hS.F ht⟩) hS.2.2 dX13_unlike_108
        · rw [fa_lt] at c_36
          try rw [ti_6] at c_36
          refine lv_iconst (v := 0) hx hb dX13_unlike_41 (by decide +kernel) ?_
          refine lv_istore (lv' := [(4, .int 0), (3, .int dd), (0, .ref h0), (1, .int x1), (2, .int x2)]) hx hb dX13_unlike_42 hl (by decide +kernel) rfl (fun ls hl => ?_)
          refine loopR (σ := (Int32)) (fun x9 ls => lv_has ls 5 [(4, .int x9), (3, .int dd), (0, .ref h0), (1, .int x1), (2, .int x2)] ∧ (0 ≤ x9.toInt ∧ (∀ t k : Int32, spK t k → bef dd x9 t k → ¬ mu2 (VALW (lqW (q 0) (q 1) (q 2) (q 3) (q 4) (q 5) (q 6)) f8 f9 f10 f11 f_30) x1 x2 t k ∧ (VALW (lqW (q 0) (q 1) (q 2) (q 3) (q 4) (q 5) (q 6)) f8 f9 f10 f11 f_30) x1 t k = (VALW (lqW (q 0) (q 1) (q 2) (q 3) (q 4) (q 5) (q 6)) f8 f9 f10 f11 f_30) x2 t k))) (fun x9 => (8 - x9.toInt).toNat) (fun x9 ls hI ih => ?_) 0 ls ⟨lv_sub hl [0, 1, 2, 3, 4] rfl, ⟨(by (try dsimp only); decide), hno⟩⟩
          obtain ⟨ss, rfl⟩ : ∃ z, z = x9 := ⟨_, rfl⟩
          obtain ⟨hl, hinv⟩ := hI
          have hl : lv_has ls 5 [(4, .int ss), (3, .int dd), (0, .ref h0), (1, .int x1), (2, .int x2)] := hl
          have hinv : 0 ≤ ss.toInt ∧ (∀ t k : Int32, spK t k → bef dd ss t k → ¬ mu2 (VALW (lqW (q 0) (q 1) (q 2) (q 3) (q 4) (q 5) (q 6)) f8 f9 f10 f11 f_30) x1 x2 t k ∧ (VALW (lqW (q 0) (q 1) (q 2) (q 3) (q 4) (q 5) (q 6)) f8 f9 f10 f11 f_30) x1 t k = (VALW (lqW (q 0) (q 1) (q 2) (q 3) (q 4) (q 5) (q 6)) f8 f9 f10 f11 f_30) x2 t k) := hinv
          obtain ⟨hss9, hno⟩ := hinv
          have ht := tri_in (d := dd.toInt) (by omega)
          refine lv_iload hx hb dX13_unlike_44 (lv_at hl 0 rfl) ?_
          refine lv_iload_n hx hb dX13_unlike_46 rfl (lv_at hl 1 rfl) ?_
          refine lv_icmp_gt (tgt := 101) hx hb dX13_unlike_47 (by decide +kernel) (fun c_37 => ?_) (fun c_37 => ?_)
          · rw [fa_lt] at c_37
            obtain ⟨z_38, ez_38⟩ : ∃ y : Int32, y = dd + 1 := ⟨_, rfl⟩
            refine lv_iinc (v := z_38) (lv' := [(3, .int z_38), (4, .int ss), (0, .ref h0), (1, .int x1), (2, .int x2)]) hx hb dX13_unlike_101 hl (k := 1) rfl (by rw [ez_38]; rfl) (by decide +kernel) rfl (fun ls hl => ?_)
            refine lv_goto (tgt := 35) hx hb dX13_unlike_104 (by decide +kernel) ?_
            have hi9 : z_38.toInt = dd.toInt + 1 := by rw [ez_38]; exact inc1 (i := dd) (n := 1000) (by omega) (by decide +kernel)
            exact iho z_38 ls ⟨lv_sub hl [0, 2, 3, 4] rfl, ⟨(by (try dsimp only); omega), bef_row hno (by omega) hi9⟩⟩ (by (try dsimp only); omega)
          · rw [fa_lt] at c_37
            have hv1 : tabW f_33 f_34 f_35 x1 dd ss = (VALW (lqW (q 0) (q 1) (q 2) (q 3) (q 4) (q 5) (q 6)) f8 f9 f10 f11 f_30) x1 dd ss := hTV x1 dd ss ⟨⟨(by omega), (by omega)⟩, (by omega), (by omega)⟩ (by omega) (by omega)
            have hq1 : 1 ≤ (f_34 (slN x1 dd ss)).toInt := hW1 _ (by have h9 := slN_b (c := x1) (x := (x1 + 1)) (t := dd) (k := ss) (by have h8 := inc1 (i := x1) (n := 24) (by omega) (by decide +kernel); omega) ⟨⟨(by omega), (by omega)⟩, (by omega), (by omega)⟩; have h8 := inc1 (i := x1) (n := 24) (by omega) (by decide +kernel); omega)
            have hv2 : tabW f_33 f_34 f_35 x2 dd ss = (VALW (lqW (q 0) (q 1) (q 2) (q 3) (q 4) (q 5) (q 6)) f8 f9 f10 f11 f_30) x2 dd ss := hTV x2 dd ss ⟨⟨(by omega), (by omega)⟩, (by omega), (by omega)⟩ (by omega) (by omega)
            have hq2 : 1 ≤ (f_34 (slN x2 dd ss)).toInt := hW1 _ (by have h9 := slN_b (c := x2) (x := (x2 + 1)) (t := dd) (k := ss) (by have h8 := inc1 (i := x2) (n := 24) (by omega) (by decide +kernel); omega) ⟨⟨(by omega), (by omega)⟩, (by omega), (by omega)⟩; have h8 := inc1 (i := x2) (n := 24) (by omega) (by decide +kernel); omega)
            refine lv_aload_n hx hb dX13_unlike_50 rfl (lv_at hl 2 rfl) ?_
            refine lv_iload_n hx hb dX13_unlike_51 rfl (lv_at hl 3 rfl) ?_
            refine lv_iload_n hx hb dX13_unlike_52 rfl (lv_at hl 1 rfl) ?_
            refine lv_iload hx hb dX13_unlike_53 (lv_at hl 0 rfl) ?_
            refine vp_callSi (W.runV (As := [.int x1, .int dd, .int ss]) (rest := []) ⟨hx, hb, hml, hown, hts⟩ (c_X13_isMuchAt l D T h0 [.int (q 0), .int (q 1), .int (q 2), .int (q 3), .int (q 4), .int (q 5), .int (q 6), .int (q 7), .ref (a 8), .ref (a 9), .ref (a 10), .ref (a 11), .ref (a 12), .ref (a 13), .int 0, .long l_28, .long l_29, .ref (a 17), .ref (a 18), .ref (a 19), .ref (a 20), .ref (a 21), .ref (a 22), .ref (a 23), .int (q 24), .ref (a 25), .int (q 26), .ref (a 27), .int (q 28), .int (q 29), .int (q 30), .int (q 31), .int (q 32), .int (q 33), .ref (a 34), .ref (a 35), .ref (a 36), .ref (a 37), .ref (a 38), .ref (a 39), .ref (a 40), .int (q 41), .ref (a 42), .int (q 43), .int (q 44)] (a 22) f_35 x1 dd ss rfl hZ (by omega) (by omega) (by omega)) (cwV 3 hts gX13_unlike_X13_isMuchAt rfl rfl rfl hv_X13_isMuchAt ⟨Nat.le_of_ble_eq_true rfl, Nat.le_of_ble_eq_true rfl⟩) (pR_V (q := (RX13, TX13, 45)) (ci := 10) (q0 := 0) hP hE rfl rfl [0, 10] rfl) rfl rfl hl.1 rfl (lv_room (Nat.le_of_ble_eq_true rfl)) dX13_unlike_55 ⟨Nat.le_of_ble_eq_true rfl, Nat.le_of_ble_eq_true rfl⟩) (fun r_39 hr_39 => ?_)
            refine lv_if_ne (tgt := 72) hx hb dX13_unlike_58 (by decide +kernel) (fun c_40 => ?_) (fun c_40 => ?_)
            · rw [fa_eq] at c_40
              try rw [ti_0] at c_40
              refine lv_bipush (v := (-5)) hx hb dX13_unlike_72 (by decide +kernel) ?_
              exact W.iret hx hb hr (fun t ht hW => ⟨⟨_, (0, l_28, l_29, f_30, f_31, f_32, f_33, f_34, f_35), rfl, ⟨(show isB 0 from isB0), (show ∀ j : Nat, isB (f_35 j) from hZ), (show (0 ≤ x1.toInt ∧ x1.toInt < (q 7).toInt) ∧ 0 ≤ x2.toInt ∧ x2.toInt < (q 7).toInt → ∀ j : Nat, (j : Int) < (q 7).toInt → mesP f8 f9 f10 f11 f_30 f_31 f_32 j from (fun _ => hMEr)), (show unlQ (VALW (lqW (q 0) (q 1) (q 2) (q 3) (q 4) (q 5) (q 6)) f8 f9 f10 f11 f_30) (q 7) x1 x2 ((-5) : Int32) from (Or.inr ⟨⟨⟨(by omega), (by omega)⟩, (by omega), (by omega)⟩, Or.inl ⟨dd, ss, ⟨⟨(by omega), (by omega)⟩, (by omega), (by omega)⟩, hno, Or.inl ⟨Or.inl (m0_of hv1 hr_39.2 (by omega)), (by decide +kernel)⟩⟩⟩))⟩, by rw [ht]; exact hP.sub [0, 1, 2, 3, 4, 5, 6, 7, 8, 9, 10] rfl, hD.sub [0, 1, 2, 3, 4, 5, 6, 7, 8, 9, 10] (by decide +kernel) rfl⟩, hS.F ht⟩) hS.2.2 dX13_unlike_74
            · rw [fa_eq] at c_40
              try rw [ti_0] at c_40
              refine lv_aload_n hx hb dX13_unlike_61 rfl (lv_at hl 2 rfl) ?_
              refine lv_iload_n hx hb dX13_unlike_62 rfl (lv_at hl 4 rfl) ?_
              refine lv_iload_n hx hb dX13_unlike_63 rfl (lv_at hl 1 rfl) ?_
              refine lv_iload hx hb dX13_unlike_64 (lv_at hl 0 rfl) ?_
              refine vp_callSi (W.runV (As := [.int x2, .int dd, .int ss]) (rest := []) ⟨hx, hb, hml, hown, hts⟩ (c_X13_isMuchAt l D T h0 [.int (q 0), .int (q 1), .int (q 2), .int (q 3), .int (q 4), .int (q 5), .int (q 6), .int (q 7), .ref (a 8), .ref (a 9), .ref (a 10), .ref (a 11), .ref (a 12), .ref (a 13), .int 0, .long l_28, .long l_29, .ref (a 17), .ref (a 18), .ref (a 19), .ref (a 20), .ref (a 21), .ref (a 22), .ref (a 23), .int (q 24), .ref (a 25), .int (q 26), .ref (a 27), .int (q 28), .int (q 29), .int (q 30), .int (q 31), .int (q 32), .int (q 33), .ref (a 34), .ref (a 35), .ref (a 36), .ref (a 37), .ref (a 38), .ref (a 39), .ref (a 40), .int (q 41), .ref (a 42), .int (q 43), .int (q 44)] (a 22) f_35 x2 dd ss rfl hZ (by omega) (by omega) (by omega)) (cwV 3 hts gX13_unlike_X13_isMuchAt rfl rfl rfl hv_X13_isMuchAt ⟨Nat.le_of_ble_eq_true rfl, Nat.le_of_ble_eq_true rfl⟩) (pR_V (q := (RX13, TX13, 45)) (ci := 10) (q0 := 0) hP hE rfl rfl [0, 10] rfl) rfl rfl hl.1 rfl (lv_room (Nat.le_of_ble_eq_true rfl)) dX13_unlike_66 ⟨Nat.le_of_ble_eq_true rfl, Nat.le_of_ble_eq_true rfl⟩) (fun r_41 hr_41 => ?_)
              refine lv_if_eq (tgt := 75) hx hb dX13_unlike_69 (by decide +kernel) (fun c_42 => ?_) (fun c_42 => ?_)
              · rw [fa_eq] at c_42
                try rw [ti_0] at c_42
                refine lv_aload_n hx hb dX13_unlike_75 rfl (lv_at hl 2 rfl) ?_
                refine lv_iload_n hx hb dX13_unlike_76 rfl (lv_at hl 3 rfl) ?_
                refine lv_iload_n hx hb dX13_unlike_77 rfl (lv_at hl 4 rfl) ?_
                refine lv_iload_n hx hb dX13_unlike_78 rfl (lv_at hl 1 rfl) ?_
                refine lv_iload hx hb dX13_unlike_79 (lv_at hl 0 rfl) ?_
                refine vp_callSi (W.runV (As := [.int x1, .int x2, .int dd, .int ss]) (rest := []) ⟨hx, hb, hml, hown, hts⟩ (c_X13_comparedAt l D T h0 [.int (q 0), .int (q 1), .int (q 2), .int (q 3), .int (q 4), .int (q 5), .int (q 6), .int (q 7), .ref (a 8), .ref (a 9), .ref (a 10), .ref (a 11), .ref (a 12), .ref (a 13), .int 0, .long l_28, .long l_29, .ref (a 17), .ref (a 18), .ref (a 19), .ref (a 20), .ref (a 21), .ref (a 22), .ref (a 23), .int (q 24), .ref (a 25), .int (q 26), .ref (a 27), .int (q 28), .int (q 29), .int (q 30), .int (q 31), .int (q 32), .int (q 33), .ref (a 34), .ref (a 35), .ref (a 36), .ref (a 37), .ref (a 38), .ref (a 39), .ref (a 40), .int (q 41), .ref (a 42), .int (q 43), .int (q 44)] (a 20) f_33 (a 21) f_34 x1 x2 dd ss rfl rfl (by omega) (by omega) (by omega) (by omega) (fun j hj => hW1 j (by omega)) (fun j hj => hW1 j (by omega))) (cwV 4 hts gX13_unlike_X13_comparedAt rfl rfl rfl hv_X13_comparedAt ⟨Nat.le_of_ble_eq_true rfl, Nat.le_of_ble_eq_true rfl⟩) (pR_V (q := (RX13, TX13, 45)) (ci := 10) (q0 := 0) hP hE rfl rfl [0, 8, 9] rfl) rfl rfl hl.1 rfl (lv_room (Nat.le_of_ble_eq_true rfl)) dX13_unlike_81 ⟨Nat.le_of_ble_eq_true rfl, Nat.le_of_ble_eq_true rfl⟩) (fun r_43 hr_43 => ?_)
                have hna9 : ¬ ((VALW (lqW (q 0) (q 1) (q 2) (q 3) (q 4) (q 5) (q 6)) f8 f9 f10 f11 f_30) x1 dd ss).2.toInt = 0 := m1_of hv1 hr_39.2 hq1 (by omega)
                have hnb9 : ¬ ((VALW (lqW (q 0) (q 1) (q 2) (q 3) (q 4) (q 5) (q 6)) f8 f9 f10 f11 f_30) x2 dd ss).2.toInt = 0 := m1_of hv2 hr_41.2 hq2 (by omega)
                have hnm9 : ¬ mu2 (VALW (lqW (q 0) (q 1) (q 2) (q 3) (q 4) (q 5) (q 6)) f8 f9 f10 f11 f_30) x1 x2 dd ss := fun h9 => h9.elim hna9 hnb9
                have hco9 : cmpP ((VALW (lqW (q 0) (q 1) (q 2) (q 3) (q 4) (q 5) (q 6)) f8 f9 f10 f11 f_30) x1 dd ss) ((VALW (lqW (q 0) (q 1) (q 2) (q 3) (q 4) (q 5) (q 6)) f8 f9 f10 f11 f_30) x2 dd ss) = r_43.toInt := cm_of hv1 hv2 hq1 hq2 hr_43 hna9 hnb9
                refine lv_if_eq (tgt := 95) hx hb dX13_unlike_84 (by decide +kernel) (fun c_44 => ?_) (fun c_44 => ?_)
                · rw [fa_eq] at c_44
                  try rw [ti_0] at c_44
                  obtain ⟨z_45, ez_45⟩ : ∃ y : Int32, y = ss + 1 := ⟨_, rfl⟩
                  refine lv_iinc (v := z_45) (lv' := [(4, .int z_45), (3, .int dd), (0, .ref h0), (1, .int x1), (2, .int x2)]) hx hb dX13_unlike_95 hl (k := 0) rfl (by rw [ez_45]; rfl) (by decide +kernel) rfl (fun ls hl => ?_)
                  refine lv_goto (tgt := 44) hx hb dX13_unlike_98 (by decide +kernel) ?_
                  have hi9 : z_45.toInt = ss.toInt + 1 := by rw [ez_45]; exact inc1 (i := ss) (n := 1000) (by omega) (by decide +kernel)
                  exact ih z_45 ls ⟨lv_sub hl [0, 1, 2, 3, 4] rfl, ⟨(by (try dsimp only); omega), bef_step hno ⟨hnm9, low_eq (VAL_low (l := lqW (q 0) (q 1) (q 2) (q 3) (q 4) (q 5) (q 6)) hL.1 hL.2 31 _ _ _) (VAL_low (l := lqW (q 0) (q 1) (q 2) (q 3) (q 4) (q 5) (q 6)) hL.1 hL.2 31 _ _ _) hna9 hnb9 (by rw [hco9]; omega)⟩ hi9⟩⟩ (by (try dsimp only); omega)
                · rw [fa_eq] at c_44
                  try rw [ti_0] at c_44
                  refine lv_bipush (v := 10) hx hb dX13_unlike_87 (by decide +kernel) ?_
                  refine lv_iload_n hx hb dX13_unlike_89 rfl (lv_at hl 1 rfl) ?_
                  refine lv_imul hx hb dX13_unlike_90 ?_
                  refine lv_iload hx hb dX13_unlike_91 (lv_at hl 0 rfl) ?_
                  refine lv_iadd hx hb dX13_unlike_93 ?_
                  exact W.iret hx hb hr (fun t ht hW => ⟨⟨_, (0, l_28, l_29, f_30, f_31, f_32, f_33, f_34, f_35), rfl, ⟨(show isB 0 from isB0), (show ∀ j : Nat, isB (f_35 j) from hZ), (show (0 ≤ x1.toInt ∧ x1.toInt < (q 7).toInt) ∧ 0 ≤ x2.toInt ∧ x2.toInt < (q 7).toInt → ∀ j : Nat, (j : Int) < (q 7).toInt → mesP f8 f9 f10 f11 f_30 f_31 f_32 j from (fun _ => hMEr)), (show unlQ (VALW (lqW (q 0) (q 1) (q 2) (q 3) (q 4) (q 5) (q 6)) f8 f9 f10 f11 f_30) (q 7) x1 x2 ((10 * dd) + ss) from (Or.inr ⟨⟨⟨(by omega), (by omega)⟩, (by omega), (by omega)⟩, Or.inl ⟨dd, ss, ⟨⟨(by omega), (by omega)⟩, (by omega), (by omega)⟩, hno, Or.inr ⟨hnm9, (fun h9 => by rw [h9, cmpP_refl] at hco9; omega), (by first | exact ul_num (by omega) (by omega) | (rw [ez]; exact ul_num (by omega) (by omega)))⟩⟩⟩))⟩, by rw [ht]; exact hP.sub [0, 1, 2, 3, 4, 5, 6, 7, 8, 9, 10] rfl, hD.sub [0, 1, 2, 3, 4, 5, 6, 7, 8, 9, 10] (by decide +kernel) rfl⟩, hS.F ht⟩) hS.2.2 dX13_unlike_94
              · rw [fa_eq] at c_42
                try rw [ti_0] at c_42
                refine lv_bipush (v := (-5)) hx hb dX13_unlike_72 (by decide +kernel) ?_
                exact W.iret hx hb hr (fun t ht hW => ⟨⟨_, (0, l_28, l_29, f_30, f_31, f_32, f_33, f_34, f_35), rfl, ⟨(show isB 0 from isB0), (show ∀ j : Nat, isB (f_35 j) from hZ), (show (0 ≤ x1.toInt ∧ x1.toInt < (q 7).toInt) ∧ 0 ≤ x2.toInt ∧ x2.toInt < (q 7).toInt → ∀ j : Nat, (j : Int) < (q 7).toInt → mesP f8 f9 f10 f11 f_30 f_31 f_32 j from (fun _ => hMEr)), (show unlQ (VALW (lqW (q 0) (q 1) (q 2) (q 3) (q 4) (q 5) (q 6)) f8 f9 f10 f11 f_30) (q 7) x1 x2 ((-5) : Int32) from (Or.inr ⟨⟨⟨(by omega), (by omega)⟩, (by omega), (by omega)⟩, Or.inl ⟨dd, ss, ⟨⟨(by omega), (by omega)⟩, (by omega), (by omega)⟩, hno, Or.inl ⟨Or.inr (m0_of hv2 hr_41.2 (by omega)), (by decide +kernel)⟩⟩⟩))⟩, by rw [ht]; exact hP.sub [0, 1, 2, 3, 4, 5, 6, 7, 8, 9, 10] rfl, hD.sub [0, 1, 2, 3, 4, 5, 6, 7, 8, 9, 10] (by decide +kernel) rfl⟩, hS.F ht⟩) hS.2.2 dX13_unlike_74
    · refine lv_if_ne (tgt := 19) hx hb dX13_unlike_13 (by decide +kernel) (fun c9 => absurd c9 (by decide +kernel)) (fun _ => ?_)
      refine lv_bipush (v := (-2)) hx hb dX13_unlike_16 (by decide +kernel) ?_
      exact W.iret hx hb hr (fun t ht hW => ⟨⟨_, ((q 14), v, w, f17, f18, f19, f20, f21, f22), rfl, ⟨(show isB (q 14) from hB), (show ∀ j : Nat, isB (f22 j) from hZ), (show (0 ≤ x1.toInt ∧ x1.toInt < (q 7).toInt) ∧ 0 ≤ x2.toInt ∧ x2.toInt < (q 7).toInt → ∀ j : Nat, (j : Int) < (q 7).toInt → mesP f8 f9 f10 f11 f17 f18 f19 j from (fun h9 => by exfalso; obtain ⟨h1, h2⟩ := h9; omega)), (show unlQ (VALW (lqW (q 0) (q 1) (q 2) (q 3) (q 4) (q 5) (q 6)) f8 f9 f10 f11 f17) (q 7) x1 x2 ((-2) : Int32) from (Or.inl ⟨(fun h9 => by obtain ⟨h1, h2⟩ := h9; omega), (by decide +kernel)⟩))⟩, by rw [ht]; exact hP.sub [0, 1, 2, 3, 4, 5, 6, 7, 8, 9, 10] rfl, hD.sub [0, 1, 2, 3, 4, 5, 6, 7, 8, 9, 10] (by decide +kernel) rfl⟩, hS.F ht⟩) hS.2.2 dX13_unlike_18
  · refine lv_if_eq (tgt := 16) hx hb dX13_unlike_5 (by decide +kernel) (fun _ => ?_) (fun c9 => absurd c9 (by decide +kernel))
    refine lv_bipush (v := (-2)) hx hb dX13_unlike_16 (by decide +kernel) ?_
    exact W.iret hx hb hr (fun t ht hW => ⟨⟨_, ((q 14), v, w, f17, f18, f19, f20, f21, f22), rfl, ⟨(show isB (q 14) from hB), (show ∀ j : Nat, isB (f22 j) from hZ), (show (0 ≤ x1.toInt ∧ x1.toInt < (q 7).toInt) ∧ 0 ≤ x2.toInt ∧ x2.toInt < (q 7).toInt → ∀ j : Nat, (j : Int) < (q 7).toInt → mesP f8 f9 f10 f11 f17 f18 f19 j from (fun h9 => by exfalso; obtain ⟨h1, h2⟩ := h9; omega)), (show unlQ (VALW (lqW (q 0) (q 1) (q 2) (q 3) (q 4) (q 5) (q 6)) f8 f9 f10 f11 f17) (q 7) x1 x2 ((-2) : Int32) from (Or.inl ⟨(fun h9 => by obtain ⟨h1, h2⟩ := h9; omega), (by decide +kernel)⟩))⟩, by rw [ht]; exact hP.sub [0, 1, 2, 3, 4, 5, 6, 7, 8, 9, 10] rfl, hD.sub [0, 1, 2, 3, 4, 5, 6, 7, 8, 9, 10] (by decide +kernel) rfl⟩, hS.F ht⟩) hS.2.2 dX13_unlike_18
theorem dX13_most_0 : decode cX13_most 0 = .ok (.aload_n 0, 1) := by decide +kernel
theorem dX13_most_1 : decode cX13_most 1 = .ok (.iload_n 1, 1) := by decide +kernel
theorem dX13_most_10 : decode cX13_most 10 = .ok (.lconst 0, 1) := by decide +kernel
theorem dX13_most_102 : decode cX13_most 102 = .ok (.ifCond .le 8, 3) := by decide +kernel
theorem dX13_most_105 : decode cX13_most 105 = .ok (.iload 5, 2) := by decide +kernel
theorem dX13_most_107 : decode cX13_most 107 = .ok (.goto 4, 3) := by decide +kernel
theorem dX13_most_11 : decode cX13_most 11 = .ok (.ldc2_w 186, 3) := by decide +kernel
theorem dX13_most_110 : decode cX13_most 110 = .ok (.iload_n 3, 1) := by decide +kernel
theorem dX13_most_111 : decode cX13_most 111 = .ok (.istore_n 3, 1) := by decide +kernel
theorem dX13_most_112 : decode cX13_most 112 = .ok (.iinc 5 1, 3) := by decide +kernel
theorem dX13_most_115 : decode cX13_most 115 = .ok (.goto (-79), 3) := by decide +kernel
theorem dX13_most_118 : decode cX13_most 118 = .ok (.iload 4, 2) := by decide +kernel
theorem dX13_most_120 : decode cX13_most 120 = .ok (.ifCond .eq 8, 3) := by decide +kernel
theorem dX13_most_123 : decode cX13_most 123 = .ok (.bipush (-5), 2) := by decide +kernel
theorem dX13_most_125 : decode cX13_most 125 = .ok (.goto 4, 3) := by decide +kernel
theorem dX13_most_128 : decode cX13_most 128 = .ok (.iload_n 3, 1) := by decide +kernel
theorem dX13_most_129 : decode cX13_most 129 = .ok (.ireturn, 1) := by decide +kernel
theorem dX13_most_14 : decode cX13_most 14 = .ok (.invokestatic 175, 3) := by decide +kernel
theorem dX13_most_17 : decode cX13_most 17 = .ok (.ifCond .ne 6, 3) := by decide +kernel
theorem dX13_most_2 : decode cX13_most 2 = .ok (.invokevirtual 233, 3) := by decide +kernel
theorem dX13_most_20 : decode cX13_most 20 = .ok (.bipush (-2), 2) := by decide +kernel
theorem dX13_most_22 : decode cX13_most 22 = .ok (.ireturn, 1) := by decide +kernel
theorem dX13_most_23 : decode cX13_most 23 = .ok (.aload_n 0, 1) := by decide +kernel
theorem dX13_most_24 : decode cX13_most 24 = .ok (.iload_n 1, 1) := by decide +kernel
theorem dX13_most_25 : decode cX13_most 25 = .ok (.invokevirtual 274, 3) := by decide +kernel
theorem dX13_most_28 : decode cX13_most 28 = .ok (.iconst 0, 1) := by decide +kernel
theorem dX13_most_29 : decode cX13_most 29 = .ok (.istore_n 3, 1) := by decide +kernel
theorem dX13_most_30 : decode cX13_most 30 = .ok (.iconst 0, 1) := by decide +kernel
theorem dX13_most_31 : decode cX13_most 31 = .ok (.istore 4, 2) := by decide +kernel
theorem dX13_most_33 : decode cX13_most 33 = .ok (.iconst 0, 1) := by decide +kernel
theorem dX13_most_34 : decode cX13_most 34 = .ok (.istore 5, 2) := by decide +kernel
theorem dX13_most_36 : decode cX13_most 36 = .ok (.iload 5, 2) := by decide +kernel
theorem dX13_most_38 : decode cX13_most 38 = .ok (.iload_n 2, 1) := by decide +kernel
theorem dX13_most_39 : decode cX13_most 39 = .ok (.if_icmp .gt 79, 3) := by decide +kernel
theorem dX13_most_42 : decode cX13_most 42 = .ok (.iload_n 1, 1) := by decide +kernel
theorem dX13_most_43 : decode cX13_most 43 = .ok (.iload_n 2, 1) := by decide +kernel
theorem dX13_most_44 : decode cX13_most 44 = .ok (.iload 5, 2) := by decide +kernel
theorem dX13_most_46 : decode cX13_most 46 = .ok (.invokestatic 239, 3) := by decide +kernel
theorem dX13_most_49 : decode cX13_most 49 = .ok (.istore 6, 2) := by decide +kernel
theorem dX13_most_5 : decode cX13_most 5 = .ok (.ifCond .eq 15, 3) := by decide +kernel
theorem dX13_most_51 : decode cX13_most 51 = .ok (.iload_n 1, 1) := by decide +kernel
theorem dX13_most_52 : decode cX13_most 52 = .ok (.iload_n 2, 1) := by decide +kernel
theorem dX13_most_53 : decode cX13_most 53 = .ok (.iload_n 3, 1) := by decide +kernel
theorem dX13_most_54 : decode cX13_most 54 = .ok (.invokestatic 239, 3) := by decide +kernel
theorem dX13_most_57 : decode cX13_most 57 = .ok (.istore 7, 2) := by decide +kernel
theorem dX13_most_59 : decode cX13_most 59 = .ok (.iload 4, 2) := by decide +kernel
theorem dX13_most_61 : decode cX13_most 61 = .ok (.aload_n 0, 1) := by decide +kernel
theorem dX13_most_62 : decode cX13_most 62 = .ok (.getfield 63, 3) := by decide +kernel
theorem dX13_most_65 : decode cX13_most 65 = .ok (.iload 6, 2) := by decide +kernel
theorem dX13_most_67 : decode cX13_most 67 = .ok (.baload, 1) := by decide +kernel
theorem dX13_most_68 : decode cX13_most 68 = .ok (.ior, 1) := by decide +kernel
theorem dX13_most_69 : decode cX13_most 69 = .ok (.istore 4, 2) := by decide +kernel
theorem dX13_most_71 : decode cX13_most 71 = .ok (.aload_n 0, 1) := by decide +kernel
theorem dX13_most_72 : decode cX13_most 72 = .ok (.getfield 56, 3) := by decide +kernel
theorem dX13_most_75 : decode cX13_most 75 = .ok (.iload 6, 2) := by decide +kernel
theorem dX13_most_77 : decode cX13_most 77 = .ok (.laload, 1) := by decide +kernel
theorem dX13_most_78 : decode cX13_most 78 = .ok (.aload_n 0, 1) := by decide +kernel
theorem dX13_most_79 : decode cX13_most 79 = .ok (.getfield 60, 3) := by decide +kernel
theorem dX13_most_8 : decode cX13_most 8 = .ok (.iload_n 2, 1) := by decide +kernel
theorem dX13_most_82 : decode cX13_most 82 = .ok (.iload 6, 2) := by decide +kernel
theorem dX13_most_84 : decode cX13_most 84 = .ok (.laload, 1) := by decide +kernel
theorem dX13_most_85 : decode cX13_most 85 = .ok (.aload_n 0, 1) := by decide +kernel
theorem dX13_most_86 : decode cX13_most 86 = .ok (.getfield 56, 3) := by decide +kernel
theorem dX13_most_89 : decode cX13_most 89 = .ok (.iload 7, 2) := by decide +kernel
theorem dX13_most_9 : decode cX13_most 9 = .ok (.i2l, 1) := by decide +kernel
theorem dX13_most_91 : decode cX13_most 91 = .ok (.laload, 1) := by decide +kernel
theorem dX13_most_92 : decode cX13_most 92 = .ok (.aload_n 0, 1) := by decide +kernel
theorem dX13_most_93 : decode cX13_most 93 = .ok (.getfield 60, 3) := by decide +kernel
theorem dX13_most_96 : decode cX13_most 96 = .ok (.iload 7, 2) := by decide +kernel
theorem dX13_most_98 : decode cX13_most 98 = .ok (.laload, 1) := by decide +kernel
theorem dX13_most_99 : decode cX13_most 99 = .ok (.invokestatic 167, 3) := by decide +kernel
set_option maxRecDepth 20000 in
theorem ggX13_most_X13_at : GoodIn wsX13_most wsX13_at := goodIn_r _ [60] rfl (by decide +kernel)
set_option maxRecDepth 20000 in
theorem ggX13_most_X13_compared : GoodIn wsX13_most wsX13_compared := goodIn_r _ [95, 96, 97, 98, 99, 93, 94, 8] rfl (by decide +kernel)
set_option maxRecDepth 20000 in
theorem ggX13_most_X13_in : GoodIn wsX13_most wsX13_in := goodIn_r _ [13] rfl (by decide +kernel)
set_option maxRecDepth 20000 in
theorem ggX13_most_X13_isClause : GoodIn wsX13_most wsX13_isClause := goodIn_r _ [9, 10, 11, 12, 8, 13, 112, 113, 114, 115, 116, 117, 118, 119, 120, 121, 122, 123, 124, 125, 126, 127, 128, 129, 130, 131, 132, 133, 134, 135, 136, 137, 138, 139, 140, 141, 142, 143, 144, 145, 146, 147, 148, 149, 150, 151, 152, 153, 154, 155, 156] rfl (by decide +kernel)
set_option maxRecDepth 40000 in
theorem ggX13_most_X13_laysWorths_0 : GoodIn wsX13_most [.code yX13_laysWorths cX13_laysWorths 6 none] := goodIn_r _ [17] rfl (by decide +kernel)
set_option maxRecDepth 40000 in
theorem ggX13_most_X13_laysWorths_1 : GoodIn wsX13_most wsX13_laysWorths_r1 := goodIn_r _ [18, 19, 2, 3, 20, 4, 21, 22, 23, 24, 8, 25, 10, 26, 27, 28, 29, 30, 31, 32, 33, 34, 35, 36] rfl (by decide +kernel)
set_option maxRecDepth 40000 in
theorem ggX13_most_X13_laysWorths_2 : GoodIn wsX13_most wsX13_laysWorths_r2 := goodIn_r _ [37, 38, 39, 40, 41, 42, 43, 44, 45, 46, 47, 48, 49, 50, 51, 52, 53, 54, 55, 56, 57, 58, 59, 60] rfl (by decide +kernel)
set_option maxRecDepth 40000 in
theorem ggX13_most_X13_laysWorths_3 : GoodIn wsX13_most wsX13_laysWorths_r3 := goodIn_r _ [61, 62, 63, 64, 65, 66, 67, 68, 69, 70, 71, 72, 73, 74, 75, 76, 77, 78, 79, 80, 81, 82, 83, 84] rfl (by decide +kernel)
set_option maxRecDepth 40000 in
theorem ggX13_most_X13_laysWorths_4 : GoodIn wsX13_most wsX13_laysWorths_r4 := goodIn_r _ [85, 86, 87, 88, 89, 90, 91, 92, 93, 94, 95, 96, 97, 98, 99, 100, 101, 102, 103, 104, 105, 106, 107, 108] rfl (by decide +kernel)
set_option maxRecDepth 40000 in
theorem ggX13_most_X13_laysWorths_5 : GoodIn wsX13_most wsX13_laysWorths_r5 := goodIn_r _ [109, 110, 111] rfl (by decide +kernel)
set_option maxRecDepth 40000 in
theorem ggX13_most_X13_laysWorths_6 : GoodIn wsX13_most wsX130 := goodIn_r _ [112, 113, 114, 115, 116, 117, 118, 119, 120, 121, 122, 123, 124, 125, 126, 127, 128, 129, 130, 131, 132, 133, 134, 135, 136, 137, 138, 139, 140, 141, 142, 143, 144, 145, 146, 147, 148, 149, 150, 151, 152, 153, 154, 155, 156] rfl (by decide +kernel)
set_option maxRecDepth 40000 in
theorem ggX13_most_X13_laysWorths : GoodIn wsX13_most wsX13_laysWorths := (goodIn_app ggX13_most_X13_laysWorths_0 (goodIn_app (goodIn_app ggX13_most_X13_laysWorths_1 (goodIn_app ggX13_most_X13_laysWorths_2 (goodIn_app ggX13_most_X13_laysWorths_3 (goodIn_app ggX13_most_X13_laysWorths_4 ggX13_most_X13_laysWorths_5)))) ggX13_most_X13_laysWorths_6))
set_option maxRecDepth 20000 in
theorem gX13_most_X13_at : GoodIn wsX13_most (va_wsS RX13 239 yX13_at wsX13_at) := goodIn_app (goodIn_of _ (by decide +kernel)) ggX13_most_X13_at
set_option maxRecDepth 20000 in
theorem gX13_most_X13_compared : GoodIn wsX13_most (va_wsS RX13 167 yX13_compared wsX13_compared) := goodIn_app (goodIn_of _ (by decide +kernel)) ggX13_most_X13_compared
set_option maxRecDepth 20000 in
theorem gX13_most_X13_in : GoodIn wsX13_most (va_wsS RX13 175 yX13_in wsX13_in) := goodIn_app (goodIn_of _ (by decide +kernel)) ggX13_most_X13_in
set_option maxRecDepth 20000 in
theorem gX13_most_X13_isClause : GoodIn wsX13_most (wsV RX13 233 RX13 yX13_isClause wsX13_isClause) := goodIn_app (goodIn_r _ [5, 6, 7, 8] rfl (by decide +kernel)) ggX13_most_X13_isClause
set_option maxRecDepth 20000 in
theorem gX13_most_X13_laysWorths : GoodIn wsX13_most (wsV RX13 274 RX13 yX13_laysWorths wsX13_laysWorths) := goodIn_app (goodIn_r _ [14, 15, 16, 8] rfl (by decide +kernel)) ggX13_most_X13_laysWorths
set_option maxRecDepth 20000 in
theorem in_X13_most_X13 : ∀ w ∈ wsX130, w ∈ wsX13_most := sub_r [112, 113, 114, 115, 116, 117, 118, 119, 120, 121, 122, 123, 124, 125, 126, 127, 128, 129, 130, 131, 132, 133, 134, 135, 136, 137, 138, 139, 140, 141, 142, 143, 144, 145, 146, 147, 148, 149, 150, 151, 152, 153, 154, 155, 156] rfl
set_option maxHeartbeats 4000000 in
set_option maxRecDepth 100000 in
theorem c_X13_most (l : Launch) (D : va_G) (T : Nat → ClassId) (sz : Nat) (h0 : Nat) (q : Nat → Int32) (v : Int64) (w : Int64) (a : Nat → Nat) (f8 : Nat → Int32) (f9 : Nat → Int32) (f10 : Nat → Int32) (f11 : Nat → Int32) (f17 : Nat → Int32) (f18 : Nat → Int32) (f19 : Nat → Int32) (f20 : Nat → Int64) (f21 : Nat → Int64) (f22 : Nat → Int32) (x1 : Int32) (x2 : Int32) (hB : isB (q 14)) (hm : 0 ≤ (q 7).toInt ∧ (q 7).toInt ≤ 24) (hokR : okR f8 f10 f11) (hZ : ∀ j : Nat, isB (f22 j)) (hL : (1 ≤ (q 4).toInt ∧ (q 4).toInt ≤ 9) ∧ 1 ≤ (q 6).toInt ∧ (q 6).toInt ≤ 9) : Met l yX13_most wsX13_most ({ frames := 134, cells := 0, slots := 0, locals := 5283 }) (pW [.ref h0, .int x1, .int x2] D T [(h0, .inr (10, (Value.int (q 0) :: Value.int (q 1) :: Value.int (q 2) :: Value.int (q 3) :: Value.int (q 4) :: Value.int (q 5) :: Value.int (q 6) :: Value.int (q 7) :: Value.ref (a 8) :: Value.ref (a 9) :: Value.ref (a 10) :: Value.ref (a 11) :: Value.ref (a 12) :: Value.ref (a 13) :: Value.int (q 14) :: Value.long v :: Value.long w :: Value.ref (a 17) :: Value.ref (a 18) :: Value.ref (a 19) :: Value.ref (a 20) :: Value.ref (a 21) :: Value.ref (a 22) :: Value.ref (a 23) :: Value.int (q 24) :: Value.ref (a 25) :: Value.int (q 26) :: Value.ref (a 27) :: Value.int (q 28) :: Value.int (q 29) :: Value.int (q 30) :: Value.int (q 31) :: Value.int (q 32) :: Value.int (q 33) :: Value.ref (a 34) :: Value.ref (a 35) :: Value.ref (a 36) :: Value.ref (a 37) :: Value.ref (a 38) :: Value.ref (a 39) :: Value.ref (a 40) :: Value.int (q 41) :: Value.ref (a 42) :: Value.int (q 43) :: Value.int (q 44) :: []))), ((a 8), .inl (T 0, 24, .inl f8)), ((a 9), .inl (T 0, 24, .inl f9)), ((a 10), .inl (T 0, 24, .inl f10)), ((a 11), .inl (T 0, 24, .inl f11)), ((a 17), .inl (T 0, 24, .inl f17)), ((a 18), .inl (T 0, 24, .inl f18)), ((a 19), .inl (T 0, 24, .inl f19)), ((a 20), .inl (T 1, 672, .inr (.inl f20))), ((a 21), .inl (T 1, 672, .inr (.inl f21))), ((a 22), .inl (T 4, 672, .inl f22))] sz) (va_Qi (fun (r : Int32) (u : (Int32) × (Int64) × (Int64) × (Nat → Int32) × (Nat → Int32) × (Nat → Int32) × (Nat → Int64) × (Nat → Int64) × (Nat → Int32)) => (isB u.1) ∧ (∀ j : Nat, isB (u.2.2.2.2.2.2.2.2 j)) ∧ ((0 ≤ x1.toInt ∧ x1.toInt < (q 7).toInt) ∧ 0 ≤ x2.toInt ∧ x2.toInt ≤ 6 → ∀ j : Nat, (j : Int) < (q 7).toInt → mesP f8 f9 f10 f11 u.2.2.2.1 u.2.2.2.2.1 u.2.2.2.2.2.1 j) ∧ (mostQ (VALW (lqW (q 0) (q 1) (q 2) (q 3) (q 4) (q 5) (q 6)) f8 f9 f10 f11 u.2.2.2.1) (q 7) x1 x2 r)) (bW D (va_A [(h0, .inr (10, (Value.int (q 0) :: Value.int (q 1) :: Value.int (q 2) :: Value.int (q 3) :: Value.int (q 4) :: Value.int (q 5) :: Value.int (q 6) :: Value.int (q 7) :: Value.ref (a 8) :: Value.ref (a 9) :: Value.ref (a 10) :: Value.ref (a 11) :: Value.ref (a 12) :: Value.ref (a 13) :: Value.int (q 14) :: Value.long v :: Value.long w :: Value.ref (a 17) :: Value.ref (a 18) :: Value.ref (a 19) :: Value.ref (a 20) :: Value.ref (a 21) :: Value.ref (a 22) :: Value.ref (a 23) :: Value.int (q 24) :: Value.ref (a 25) :: Value.int (q 26) :: Value.ref (a 27) :: Value.int (q 28) :: Value.int (q 29) :: Value.int (q 30) :: Value.int (q 31) :: Value.int (q 32) :: Value.int (q 33) :: Value.ref (a 34) :: Value.ref (a 35) :: Value.ref (a 36) :: Value.ref (a 37) :: Value.ref (a 38) :: Value.ref (a 39) :: Value.ref (a 40) :: Value.int (q 41) :: Value.ref (a 42) :: Value.int (q 43) :: Value.int (q 44) :: []))), ((a 8), .inl (T 0, 24, .inl f8)), ((a 9), .inl (T 0, 24, .inl f9)), ((a 10), .inl (T 0, 24, .inl f10)), ((a 11), .inl (T 0, 24, .inl f11)), ((a 17), .inl (T 0, 24, .inl f17)), ((a 18), .inl (T 0, 24, .inl f18)), ((a 19), .inl (T 0, 24, .inl f19)), ((a 20), .inl (T 1, 672, .inr (.inl f20))), ((a 21), .inl (T 1, 672, .inr (.inl f21))), ((a 22), .inl (T 4, 672, .inl f22))] sz) (fun (u : (Int32) × (Int64) × (Int64) × (Nat → Int32) × (Nat → Int32) × (Nat → Int32) × (Nat → Int64) × (Nat → Int64) × (Nat → Int32)) => [(h0, .inr (10, (Value.int (q 0) :: Value.int (q 1) :: Value.int (q 2) :: Value.int (q 3) :: Value.int (q 4) :: Value.int (q 5) :: Value.int (q 6) :: Value.int (q 7) :: Value.ref (a 8) :: Value.ref (a 9) :: Value.ref (a 10) :: Value.ref (a 11) :: Value.ref (a 12) :: Value.ref (a 13) :: Value.int u.1 :: Value.long u.2.1 :: Value.long u.2.2.1 :: Value.ref (a 17) :: Value.ref (a 18) :: Value.ref (a 19) :: Value.ref (a 20) :: Value.ref (a 21) :: Value.ref (a 22) :: Value.ref (a 23) :: Value.int (q 24) :: Value.ref (a 25) :: Value.int (q 26) :: Value.ref (a 27) :: Value.int (q 28) :: Value.int (q 29) :: Value.int (q 30) :: Value.int (q 31) :: Value.int (q 32) :: Value.int (q 33) :: Value.ref (a 34) :: Value.ref (a 35) :: Value.ref (a 36) :: Value.ref (a 37) :: Value.ref (a 38) :: Value.ref (a 39) :: Value.ref (a 40) :: Value.int (q 41) :: Value.ref (a 42) :: Value.int (q 43) :: Value.int (q 44) :: []))), ((a 8), .inl (T 0, 24, .inl f8)), ((a 9), .inl (T 0, 24, .inl f9)), ((a 10), .inl (T 0, 24, .inl f10)), ((a 11), .inl (T 0, 24, .inl f11)), ((a 17), .inl (T 0, 24, .inl u.2.2.2.1)), ((a 18), .inl (T 0, 24, .inl u.2.2.2.2.1)), ((a 19), .inl (T 0, 24, .inl u.2.2.2.2.2.1)), ((a 20), .inl (T 1, 672, .inr (.inl u.2.2.2.2.2.2.1))), ((a 21), .inl (T 1, 672, .inr (.inl u.2.2.2.2.2.2.2.1))), ((a 22), .inl (T 4, 672, .inl u.2.2.2.2.2.2.2.2))])) (va_A [(h0, .inr (10, (Value.int (q 0) :: Value.int (q 1) :: Value.int (q 2) :: Value.int (q 3) :: Value.int (q 4) :: Value.int (q 5) :: Value.int (q 6) :: Value.int (q 7) :: Value.ref (a 8) :: Value.ref (a 9) :: Value.ref (a 10) :: Value.ref (a 11) :: Value.ref (a 12) :: Value.ref (a 13) :: Value.int (q 14) :: Value.long v :: Value.long w :: Value.ref (a 17) :: Value.ref (a 18) :: Value.ref (a 19) :: Value.ref (a 20) :: Value.ref (a 21) :: Value.ref (a 22) :: Value.ref (a 23) :: Value.int (q 24) :: Value.ref (a 25) :: Value.int (q 26) :: Value.ref (a 27) :: Value.int (q 28) :: Value.int (q 29) :: Value.int (q 30) :: Value.int (q 31) :: Value.int (q 32) :: Value.int (q 33) :: Value.ref (a 34) :: Value.ref (a 35) :: Value.ref (a 36) :: Value.ref (a 37) :: Value.ref (a 38) :: Value.ref (a 39) :: Value.ref (a 40) :: Value.int (q 41) :: Value.ref (a 42) :: Value.int (q 43) :: Value.int (q 44) :: []))), ((a 8), .inl (T 0, 24, .inl f8)), ((a 9), .inl (T 0, 24, .inl f9)), ((a 10), .inl (T 0, 24, .inl f10)), ((a 11), .inl (T 0, 24, .inl f11)), ((a 17), .inl (T 0, 24, .inl f17)), ((a 18), .inl (T 0, 24, .inl f18)), ((a 19), .inl (T 0, 24, .inl f19)), ((a 20), .inl (T 1, 672, .inr (.inl f20))), ((a 21), .inl (T 1, 672, .inr (.inl f21))), ((a 22), .inl (T 4, 672, .inl f22))] sz)) 0 0 (va_A [(h0, .inr (10, (Value.int (q 0) :: Value.int (q 1) :: Value.int (q 2) :: Value.int (q 3) :: Value.int (q 4) :: Value.int (q 5) :: Value.int (q 6) :: Value.int (q 7) :: Value.ref (a 8) :: Value.ref (a 9) :: Value.ref (a 10) :: Value.ref (a 11) :: Value.ref (a 12) :: Value.ref (a 13) :: Value.int (q 14) :: Value.long v :: Value.long w :: Value.ref (a 17) :: Value.ref (a 18) :: Value.ref (a 19) :: Value.ref (a 20) :: Value.ref (a 21) :: Value.ref (a 22) :: Value.ref (a 23) :: Value.int (q 24) :: Value.ref (a 25) :: Value.int (q 26) :: Value.ref (a 27) :: Value.int (q 28) :: Value.int (q 29) :: Value.int (q 30) :: Value.int (q 31) :: Value.int (q 32) :: Value.int (q 33) :: Value.ref (a 34) :: Value.ref (a 35) :: Value.ref (a 36) :: Value.ref (a 37) :: Value.ref (a 38) :: Value.ref (a 39) :: Value.ref (a 40) :: Value.int (q 41) :: Value.ref (a 42) :: Value.int (q 43) :: Value.int (q 44) :: []))), ((a 8), .inl (T 0, 24, .inl f8)), ((a 9), .inl (T 0, 24, .inl f9)), ((a 10), .inl (T 0, 24, .inl f10)), ((a 11), .inl (T 0, 24, .inl f11)), ((a 17), .inl (T 0, 24, .inl f17)), ((a 18), .inl (T 0, 24, .inl f18)), ((a 19), .inl (T 0, 24, .inl f19)), ((a 20), .inl (T 1, 672, .inr (.inl f20))), ((a 21), .inl (T 1, 672, .inr (.inl f21))), ((a 22), .inl (T 4, 672, .inl f22))] sz) := by
  refine Met.ofW (cc := cX13_most) (maxL := 8) (ret := (some .int)) (by decide +kernel) rfl ?_
  intro p e s m args below meth c s₁ B hml hv
  obtain ⟨rfl, hsz, hP, hE, hD0⟩ := hv
  have hx := B.exec
  have hb := B.bytes
  have hr := B.returns
  have hts := atoms_spec (ws := wsX13_most) B.pre
  have hown : s.vm.findClass RX13 = some m.cls := findClass_of_methodNamed B.named
  have hlocks := B.notSynchronized
  subst hsz
  have hD := hD0.self (sz := s.heap.size)
  generalize hAe : va_A [(h0, .inr (10, (Value.int (q 0) :: Value.int (q 1) :: Value.int (q 2) :: Value.int (q 3) :: Value.int (q 4) :: Value.int (q 5) :: Value.int (q 6) :: Value.int (q 7) :: Value.ref (a 8) :: Value.ref (a 9) :: Value.ref (a 10) :: Value.ref (a 11) :: Value.ref (a 12) :: Value.ref (a 13) :: Value.int (q 14) :: Value.long v :: Value.long w :: Value.ref (a 17) :: Value.ref (a 18) :: Value.ref (a 19) :: Value.ref (a 20) :: Value.ref (a 21) :: Value.ref (a 22) :: Value.ref (a 23) :: Value.int (q 24) :: Value.ref (a 25) :: Value.int (q 26) :: Value.ref (a 27) :: Value.int (q 28) :: Value.int (q 29) :: Value.int (q 30) :: Value.int (q 31) :: Value.int (q 32) :: Value.int (q 33) :: Value.ref (a 34) :: Value.ref (a 35) :: Value.ref (a 36) :: Value.ref (a 37) :: Value.ref (a 38) :: Value.ref (a 39) :: Value.ref (a 40) :: Value.int (q 41) :: Value.ref (a 42) :: Value.int (q 43) :: Value.int (q 44) :: []))), ((a 8), .inl (T 0, 24, .inl f8)), ((a 9), .inl (T 0, 24, .inl f9)), ((a 10), .inl (T 0, 24, .inl f10)), ((a 11), .inl (T 0, 24, .inl f11)), ((a 17), .inl (T 0, 24, .inl f17)), ((a 18), .inl (T 0, 24, .inl f18)), ((a 19), .inl (T 0, 24, .inl f19)), ((a 20), .inl (T 1, 672, .inr (.inl f20))), ((a 21), .inl (T 1, 672, .inr (.inl f21))), ((a 22), .inl (T 4, 672, .inl f22))] s.heap.size = A at hD ⊢
  have hA : ∀ q : Nat, s.heap.size ≤ q → A q := fun q h => by rw [← hAe]; exact Or.inr h
  have hS : va_S A s.heap s.heap [] := va_S.rf
  have hP : va_P D vwCl [(h0, .inr (10, (Value.int (q 0) :: Value.int (q 1) :: Value.int (q 2) :: Value.int (q 3) :: Value.int (q 4) :: Value.int (q 5) :: Value.int (q 6) :: Value.int (q 7) :: Value.ref (a 8) :: Value.ref (a 9) :: Value.ref (a 10) :: Value.ref (a 11) :: Value.ref (a 12) :: Value.ref (a 13) :: Value.int (q 14) :: Value.long v :: Value.long w :: Value.ref (a 17) :: Value.ref (a 18) :: Value.ref (a 19) :: Value.ref (a 20) :: Value.ref (a 21) :: Value.ref (a 22) :: Value.ref (a 23) :: Value.int (q 24) :: Value.ref (a 25) :: Value.int (q 26) :: Value.ref (a 27) :: Value.int (q 28) :: Value.int (q 29) :: Value.int (q 30) :: Value.int (q 31) :: Value.int (q 32) :: Value.int (q 33) :: Value.ref (a 34) :: Value.ref (a 35) :: Value.ref (a 36) :: Value.ref (a 37) :: Value.ref (a 38) :: Value.ref (a 39) :: Value.ref (a 40) :: Value.int (q 41) :: Value.ref (a 42) :: Value.int (q 43) :: Value.int (q 44) :: []))), ((a 8), .inl (T 0, 24, .inl f8)), ((a 9), .inl (T 0, 24, .inl f9)), ((a 10), .inl (T 0, 24, .inl f10)), ((a 11), .inl (T 0, 24, .inl f11)), ((a 17), .inl (T 0, 24, .inl f17)), ((a 18), .inl (T 0, 24, .inl f18)), ((a 19), .inl (T 0, 24, .inl f19)), ((a 20), .inl (T 1, 672, .inr (.inl f20))), ((a 21), .inl (T 1, 672, .inr (.inl f21))), ((a 22), .inl (T 4, 672, .inl f22))] s.heap := hP
  have hl := lv_entry ([.ref h0, .int x1, .int x2]) (n := 8) (Nat.le_of_ble_eq_true rfl)
  rw [lg_entry_eq]
  generalize (lg_sl ([.ref h0, .int x1, .int x2]) ++ List.replicate (8 - (lg_sl ([.ref h0, .int x1, .int x2])).length) Slot.unset).toArray = ls at hl ⊢
  have hl : lv_has ls 8 [(0, .ref h0), (1, .int x1), (2, .int x2)] := hl
  clear hD0
  refine lv_aload_n hx hb dX13_most_0 rfl (lv_at hl 0 rfl) ?_
  refine lv_iload_n hx hb dX13_most_1 rfl (lv_at hl 1 rfl) ?_
  refine vp_callSi (W.runV (As := [.int x1]) (rest := []) ⟨hx, hb, hml, hown, hts⟩ (c_X13_isClause l D T h0 [.int (q 0), .int (q 1), .int (q 2), .int (q 3), .int (q 4), .int (q 5), .int (q 6), .int (q 7), .ref (a 8), .ref (a 9), .ref (a 10), .ref (a 11), .ref (a 12), .ref (a 13), .int (q 14), .long v, .long w, .ref (a 17), .ref (a 18), .ref (a 19), .ref (a 20), .ref (a 21), .ref (a 22), .ref (a 23), .int (q 24), .ref (a 25), .int (q 26), .ref (a 27), .int (q 28), .int (q 29), .int (q 30), .int (q 31), .int (q 32), .int (q 33), .ref (a 34), .ref (a 35), .ref (a 36), .ref (a 37), .ref (a 38), .ref (a 39), .ref (a 40), .int (q 41), .ref (a 42), .int (q 43), .int (q 44)] x1 (q 7) rfl (by omega)) (cwV 1 hts gX13_most_X13_isClause rfl rfl rfl hv_X13_isClause ⟨Nat.le_of_ble_eq_true rfl, Nat.le_of_ble_eq_true rfl⟩) (pR_V (q := (RX13, TX13, 45)) (ci := 10) (q0 := 0) hP hE rfl rfl [0] rfl) rfl rfl hl.1 rfl (lv_room (Nat.le_of_ble_eq_true rfl)) dX13_most_2 ⟨Nat.le_of_ble_eq_true rfl, Nat.le_of_ble_eq_true rfl⟩) (fun r_1 hr_1 => ?_)
  rcases bool_post hr_1 with ⟨c_2, rfl⟩ | ⟨c_2, rfl⟩
  · refine lv_if_eq (tgt := 20) hx hb dX13_most_5 (by decide +kernel) (fun c9 => absurd c9 (by decide +kernel)) (fun _ => ?_)
    refine lv_iload_n hx hb dX13_most_8 rfl (lv_at hl 2 rfl) ?_
    refine lv_i2l hx hb dX13_most_9 rfl ?_
    refine lv_lconst (v := 0) hx hb dX13_most_10 (by decide +kernel) ?_
    refine lv_ldc2 (v := 6) hx hb hown (hts (.constantLong RX13 186 (6)) (List.mem_of_getElem? (i := 1) rfl)) dX13_most_11 ?_
    refine vp_callSi (W.runS (As := [.long (x2.toInt64), .long 0, .long 6]) (rest := []) ⟨hx, hb, hml, hown, hts⟩ (c_X13_in l D T (x2.toInt64) 0 6 x2.toInt 0 6 ((Int32.toInt_toInt64 _).trans rfl) (by decide +kernel) (by decide +kernel)) (va_cwS 3 hts gX13_most_X13_in rfl rfl rfl hs_X13_in ⟨Nat.le_of_ble_eq_true rfl, Nat.le_of_ble_eq_true rfl⟩) (pR_S hP hE [] rfl) rfl rfl hl.1 rfl (lv_room (Nat.le_of_ble_eq_true rfl)) dX13_most_14 ⟨Nat.le_of_ble_eq_true rfl, Nat.le_of_ble_eq_true rfl⟩) (fun r_3 hr_3 => ?_)
    rcases bool_post hr_3 with ⟨c_4, rfl⟩ | ⟨c_4, rfl⟩
    · refine lv_if_ne (tgt := 23) hx hb dX13_most_17 (by decide +kernel) (fun _ => ?_) (fun c9 => absurd c9 (by decide +kernel))
      refine lv_aload_n hx hb dX13_most_23 rfl (lv_at hl 0 rfl) ?_
      refine lv_iload_n hx hb dX13_most_24 rfl (lv_at hl 1 rfl) ?_
      have hFc := va_free (wc := [(h0, .inr (10, (Value.int (q 0) :: Value.int (q 1) :: Value.int (q 2) :: Value.int (q 3) :: Value.int (q 4) :: Value.int (q 5) :: Value.int (q 6) :: Value.int (q 7) :: Value.ref (a 8) :: Value.ref (a 9) :: Value.ref (a 10) :: Value.ref (a 11) :: Value.ref (a 12) :: Value.ref (a 13) :: Value.int (q 14) :: Value.long v :: Value.long w :: Value.ref (a 17) :: Value.ref (a 18) :: Value.ref (a 19) :: Value.ref (a 20) :: Value.ref (a 21) :: Value.ref (a 22) :: Value.ref (a 23) :: Value.int (q 24) :: Value.ref (a 25) :: Value.int (q 26) :: Value.ref (a 27) :: Value.int (q 28) :: Value.int (q 29) :: Value.int (q 30) :: Value.int (q 31) :: Value.int (q 32) :: Value.int (q 33) :: Value.ref (a 34) :: Value.ref (a 35) :: Value.ref (a 36) :: Value.ref (a 37) :: Value.ref (a 38) :: Value.ref (a 39) :: Value.ref (a 40) :: Value.int (q 41) :: Value.ref (a 42) :: Value.int (q 43) :: Value.int (q 44) :: []))), ((a 8), .inl (T 0, 24, .inl f8)), ((a 9), .inl (T 0, 24, .inl f9)), ((a 10), .inl (T 0, 24, .inl f10)), ((a 11), .inl (T 0, 24, .inl f11)), ((a 17), .inl (T 0, 24, .inl f17)), ((a 18), .inl (T 0, 24, .inl f18)), ((a 19), .inl (T 0, 24, .inl f19)), ((a 20), .inl (T 1, 672, .inr (.inl f20))), ((a 21), .inl (T 1, 672, .inr (.inl f21))), ((a 22), .inl (T 4, 672, .inl f22))]) hD hS hA [0, 1, 2, 3, 4, 5, 6, 7, 8, 9, 10] rfl
      refine va_callv (va_runV (As := [.int x1]) (rest := []) ⟨hx, hb, hml, hown, hts⟩ (c_X13_laysWorths l D T _ h0 q v w a f8 f9 f10 f11 f17 f18 f19 f20 f21 f22 x1 (show 0 ≤ (q 7).toInt ∧ (q 7).toInt ≤ 24 from (by omega)) (show okR f8 f10 f11 from hokR) (show ∀ j : Nat, isB (f22 j) from hZ) (show (1 ≤ (q 4).toInt ∧ (q 4).toInt ≤ 9) ∧ 1 ≤ (q 6).toInt ∧ (q 6).toInt ≤ 9 from (by omega)) (show -1 ≤ x1.toInt ∧ x1.toInt < (q 7).toInt from (by omega))) (cwV 1 hts gX13_most_X13_laysWorths rfl rfl rfl hv_X13_laysWorths ⟨Nat.le_of_ble_eq_true rfl, Nat.le_of_ble_eq_true rfl⟩) (pW_V (q := (RX13, TX13, 45)) (ci := 10) (q0 := 0) hP hE hD rfl rfl [0, 1, 2, 3, 4, 5, 6, 7, 8, 9, 10] (by decide +kernel) rfl rfl) rfl rfl hl.1 rfl (lv_room (Nat.le_of_ble_eq_true rfl)) dX13_most_25 ⟨Nat.le_of_ble_eq_true rfl, Nat.le_of_ble_eq_true rfl⟩) hS (fun q _ h => hFc q h) hFc (fun u_6 t H1 locs ht hvm hr_5 hB hz1 hk1 hS => ?_)
      obtain ⟨l_7, l_8, f_9, f_10, f_11, f_12, f_13, f_14⟩ := u_6
      obtain ⟨hi0_r_5, hi1_r_5, hi2_r_5, hi3_r_5, hi4_r_5⟩ := hr_5
      have hZ : ∀ j : Nat, isB (f_14 j) := hi0_r_5
      have hEE : okE f8 f10 f_9 (q 7).toInt := hi1_r_5
      have hW1 : ∀ j : Nat, (j : Int) < 28 * (x1.toInt + 1) → 1 ≤ (f_13 j).toInt := hi2_r_5
      have hTV : ∀ y t s : Int32, spK t s → 0 ≤ y.toInt → y.toInt ≤ x1.toInt → tabW f_12 f_13 f_14 y t s = VALW (lqW (q 0) (q 1) (q 2) (q 3) (q 4) (q 5) (q 6)) f8 f9 f10 f11 f_9 y t s := hi3_r_5
      have hMEr : ∀ j : Nat, (j : Int) < (q 7).toInt → mesP f8 f9 f10 f11 f_9 f_10 f_11 j := hi4_r_5
      obtain ⟨hP1, hD1⟩ := hB
      rw [ht] at hP1
      obtain ⟨hP, hD⟩ := va_repl [(h0, .inr (10, (Value.int (q 0) :: Value.int (q 1) :: Value.int (q 2) :: Value.int (q 3) :: Value.int (q 4) :: Value.int (q 5) :: Value.int (q 6) :: Value.int (q 7) :: Value.ref (a 8) :: Value.ref (a 9) :: Value.ref (a 10) :: Value.ref (a 11) :: Value.ref (a 12) :: Value.ref (a 13) :: Value.int 0 :: Value.long l_7 :: Value.long l_8 :: Value.ref (a 17) :: Value.ref (a 18) :: Value.ref (a 19) :: Value.ref (a 20) :: Value.ref (a 21) :: Value.ref (a 22) :: Value.ref (a 23) :: Value.int (q 24) :: Value.ref (a 25) :: Value.int (q 26) :: Value.ref (a 27) :: Value.int (q 28) :: Value.int (q 29) :: Value.int (q 30) :: Value.int (q 31) :: Value.int (q 32) :: Value.int (q 33) :: Value.ref (a 34) :: Value.ref (a 35) :: Value.ref (a 36) :: Value.ref (a 37) :: Value.ref (a 38) :: Value.ref (a 39) :: Value.ref (a 40) :: Value.int (q 41) :: Value.ref (a 42) :: Value.int (q 43) :: Value.int (q 44) :: []))), ((a 8), .inl (T 0, 24, .inl f8)), ((a 9), .inl (T 0, 24, .inl f9)), ((a 10), .inl (T 0, 24, .inl f10)), ((a 11), .inl (T 0, 24, .inl f11)), ((a 17), .inl (T 0, 24, .inl f_9)), ((a 18), .inl (T 0, 24, .inl f_10)), ((a 19), .inl (T 0, 24, .inl f_11)), ((a 20), .inl (T 1, 672, .inr (.inl f_12))), ((a 21), .inl (T 1, 672, .inr (.inl f_13))), ((a 22), .inl (T 4, 672, .inl f_14))] hP hD [0, 1, 2, 3, 4, 5, 6, 7, 8, 9, 10] [0, 1, 2, 3, 4, 5, 6, 7, 8, 9, 10] rfl (by decide +kernel) rfl rfl rfl hk1 hP1
      clear hP1 hD1 hFc
      generalize H1 = H at hP hS ⊢
      refine lv_iconst (v := 0) hx hb dX13_most_28 (by decide +kernel) ?_
      refine lv_istore_n (lv' := [(3, .int 0), (0, .ref h0), (1, .int x1), (2, .int x2)]) hx hb dX13_most_29 rfl hl (by decide +kernel) rfl (fun ls hl => ?_)
      refine lv_iconst (v := 0) hx hb dX13_most_30 (by decide +kernel) ?_
      refine lv_istore (lv' := [(4, .int 0), (3, .int 0), (0, .ref h0), (1, .int x1), (2, .int x2)]) hx hb dX13_most_31 hl (by decide +kernel) rfl (fun ls hl => ?_)
      refine lv_iconst (v := 0) hx hb dX13_most_33 (by decide +kernel) ?_
      refine lv_istore (lv' := [(5, .int 0), (4, .int 0), (3, .int 0), (0, .ref h0), (1, .int x1), (2, .int x2)]) hx hb dX13_most_34 hl (by decide +kernel) rfl (fun ls hl => ?_)
      refine loopR (σ := (Int32) × (Int32) × (Int32)) (fun x9 ls => lv_has ls 8 [(5, .int x9.1), (4, .int x9.2.1), (3, .int x9.2.2), (0, .ref h0), (1, .int x1), (2, .int x2)] ∧ ((0 ≤ x9.1.toInt ∧ x9.1.toInt ≤ x2.toInt + 1 ∧ 0 ≤ x9.2.2.toInt ∧ x9.2.2.toInt ≤ x2.toInt) ∧ isB x9.2.1 ∧ moI (VALW (lqW (q 0) (q 1) (q 2) (q 3) (q 4) (q 5) (q 6)) f8 f9 f10 f11 f_9) x1 x2 x9.1 x9.2.2 x9.2.1)) (fun x9 => (8 - x9.1.toInt).toNat) (fun x9 ls hI ih => ?_) (0, 0, 0) ls ⟨lv_sub hl [0, 1, 2, 3, 4, 5] rfl, ⟨(by (try dsimp only); simp only [ti_0]; omega), isB0, moI_0⟩⟩
      obtain ⟨ss, ov, be⟩ := x9
      obtain ⟨hl, hinv⟩ := hI
      have hl : lv_has ls 8 [(5, .int ss), (4, .int ov), (3, .int be), (0, .ref h0), (1, .int x1), (2, .int x2)] := hl
      have hinv : (0 ≤ ss.toInt ∧ ss.toInt ≤ x2.toInt + 1 ∧ 0 ≤ be.toInt ∧ be.toInt ≤ x2.toInt) ∧ isB ov ∧ moI (VALW (lqW (q 0) (q 1) (q 2) (q 3) (q 4) (q 5) (q 6)) f8 f9 f10 f11 f_9) x1 x2 ss be ov := hinv
      obtain ⟨hrg9, hBo, hmo⟩ := hinv
      refine lv_iload hx hb dX13_most_36 (lv_at hl 0 rfl) ?_
      refine lv_iload_n hx hb dX13_most_38 rfl (lv_at hl 5 rfl) ?_
      refine lv_icmp_gt (tgt := 118) hx hb dX13_most_39 (by decide +kernel) (fun c_15 => ?_) (fun c_15 => ?_)
      · rw [fa_lt] at c_15
        refine lv_iload hx hb dX13_most_118 (lv_at hl 1 rfl) ?_
        refine lv_if_eq (tgt := 128) hx hb dX13_most_120 (by decide +kernel) (fun c_16 => ?_) (fun c_16 => ?_)
        · rw [fa_eq] at c_16
          try rw [ti_0] at c_16
          refine lv_iload_n hx hb dX13_most_128 rfl (lv_at hl 2 rfl) ?_
          exact W.iret hx hb hr (fun t ht hW => ⟨⟨_, (0, l_7, l_8, f_9, f_10, f_11, f_12, f_13, f_14), rfl, ⟨(show isB 0 from isB0), (show ∀ j : Nat, isB (f_14 j) from hZ), (show (0 ≤ x1.toInt ∧ x1.toInt < (q 7).toInt) ∧ 0 ≤ x2.toInt ∧ x2.toInt ≤ 6 → ∀ j : Nat, (j : Int) < (q 7).toInt → mesP f8 f9 f10 f11 f_9 f_10 f_11 j from (fun _ => hMEr)), (show mostQ (VALW (lqW (q 0) (q 1) (q 2) (q 3) (q 4) (q 5) (q 6)) f8 f9 f10 f11 f_9) (q 7) x1 x2 be from (moI_end ⟨⟨(by omega), (by omega)⟩, (by omega), (by omega)⟩ hmo (by omega) (by first | exact Or.inl ⟨by omega, rfl⟩ | exact Or.inr ⟨by omega, by decide⟩)))⟩, by rw [ht]; exact hP.sub [0, 1, 2, 3, 4, 5, 6, 7, 8, 9, 10] rfl, hD.sub [0, 1, 2, 3, 4, 5, 6, 7, 8, 9, 10] (by decide +kernel) rfl⟩, hS.F ht⟩) hS.2.2 dX13_most_129
        · rw [fa_eq] at c_16
          try rw [ti_0] at c_16
          refine lv_bipush (v := (-5)) hx hb dX13_most_123 (by decide +kernel) ?_
          refine lv_goto (tgt := 129) hx hb dX13_most_125 (by decide +kernel) ?_
          exact W.iret hx hb hr (fun t ht hW => ⟨⟨_, (0, l_7, l_8, f_9, f_10, f_11, f_12, f_13, f_14), rfl, ⟨(show isB 0 from isB0), (show ∀ j : Nat, isB (f_14 j) from hZ), (show (0 ≤ x1.toInt ∧ x1.toInt < (q 7).toInt) ∧ 0 ≤ x2.toInt ∧ x2.toInt ≤ 6 → ∀ j : Nat, (j : Int) < (q 7).toInt → mesP f8 f9 f10 f11 f_9 f_10 f_11 j from (fun _ => hMEr)), (show mostQ (VALW (lqW (q 0) (q 1) (q 2) (q 3) (q 4) (q 5) (q 6)) f8 f9 f10 f11 f_9) (q 7) x1 x2 ((-5) : Int32) from (moI_end ⟨⟨(by omega), (by omega)⟩, (by omega), (by omega)⟩ hmo (by omega) (by first | exact Or.inl ⟨by omega, rfl⟩ | exact Or.inr ⟨by omega, by decide⟩)))⟩, by rw [ht]; exact hP.sub [0, 1, 2, 3, 4, 5, 6, 7, 8, 9, 10] rfl, hD.sub [0, 1, 2, 3, 4, 5, 6, 7, 8, 9, 10] (by decide +kernel) rfl⟩, hS.F ht⟩) hS.2.2 dX13_most_129
      · rw [fa_lt] at c_15
        refine lv_iload_n hx hb dX13_most_42 rfl (lv_at hl 4 rfl) ?_
        refine lv_iload_n hx hb dX13_most_43 rfl (lv_at hl 5 rfl) ?_
        refine lv_iload hx hb dX13_most_44 (lv_at hl 0 rfl) ?_
        refine vp_callSi (W.runS (As := [.int x1, .int x2, .int ss]) (rest := []) ⟨hx, hb, hml, hown, hts⟩ (c_X13_at l D T x1 x2 ss (by (try simp only [ti_0]); omega) (by (try simp only [ti_0]); omega) (by (try simp only [ti_0]); omega)) (va_cwS 3 hts gX13_most_X13_at rfl rfl rfl hs_X13_at ⟨Nat.le_of_ble_eq_true rfl, Nat.le_of_ble_eq_true rfl⟩) (pR_S hP hE [] rfl) rfl rfl hl.1 rfl (lv_room (Nat.le_of_ble_eq_true rfl)) dX13_most_46 ⟨Nat.le_of_ble_eq_true rfl, Nat.le_of_ble_eq_true rfl⟩) (fun r_17 hr_17 => ?_)
        refine lv_istore (lv' := [(6, .int r_17), (5, .int ss), (4, .int ov), (3, .int be), (0, .ref h0), (1, .int x1), (2, .int x2)]) hx hb dX13_most_49 hl (by decide +kernel) rfl (fun ls hl => ?_)
        refine lv_iload_n hx hb dX13_most_51 rfl (lv_at hl 5 rfl) ?_
        refine lv_iload_n hx hb dX13_most_52 rfl (lv_at hl 6 rfl) ?_
        refine lv_iload_n hx hb dX13_most_53 rfl (lv_at hl 3 rfl) ?_
        refine vp_callSi (W.runS (As := [.int x1, .int x2, .int be]) (rest := []) ⟨hx, hb, hml, hown, hts⟩ (c_X13_at l D T x1 x2 be (by (try simp only [ti_0]); omega) (by (try simp only [ti_0]); omega) (by (try simp only [ti_0]); omega)) (va_cwS 3 hts gX13_most_X13_at rfl rfl rfl hs_X13_at ⟨Nat.le_of_ble_eq_true rfl, Nat.le_of_ble_eq_true rfl⟩) (pR_S hP hE [] rfl) rfl rfl hl.1 rfl (lv_room (Nat.le_of_ble_eq_true rfl)) dX13_most_54 ⟨Nat.le_of_ble_eq_true rfl, Nat.le_of_ble_eq_true rfl⟩) (fun r_18 hr_18 => ?_)
        refine lv_istore (lv' := [(7, .int r_18), (6, .int r_17), (5, .int ss), (4, .int ov), (3, .int be), (0, .ref h0), (1, .int x1), (2, .int x2)]) hx hb dX13_most_57 hl (by decide +kernel) rfl (fun ls hl => ?_)
        have hsl6 : r_17.toNatClampNeg = slN x1 x2 ss := at_sl (by omega) (by omega) (by omega) hr_17.1
        have hv6 : tabW f_12 f_13 f_14 x1 x2 ss = (VALW (lqW (q 0) (q 1) (q 2) (q 3) (q 4) (q 5) (q 6)) f8 f9 f10 f11 f_9) x1 x2 ss := hTV x1 x2 ss ⟨⟨(by omega), (by omega)⟩, (by omega), (by omega)⟩ (by omega) (by omega)
        have hq6 : 1 ≤ (f_13 (slN x1 x2 ss)).toInt := by rw [← hsl6]; exact hW1 _ (by have h9 := tn (x := r_17) (by omega); omega)
        have hsl7 : r_18.toNatClampNeg = slN x1 x2 be := at_sl (by omega) (by omega) (by omega) hr_18.1
        have hv7 : tabW f_12 f_13 f_14 x1 x2 be = (VALW (lqW (q 0) (q 1) (q 2) (q 3) (q 4) (q 5) (q 6)) f8 f9 f10 f11 f_9) x1 x2 be := hTV x1 x2 be ⟨⟨(by omega), (by omega)⟩, (by omega), (by omega)⟩ (by omega) (by omega)
        have hq7 : 1 ≤ (f_13 (slN x1 x2 be)).toInt := by rw [← hsl7]; exact hW1 _ (by have h9 := tn (x := r_18) (by omega); omega)
        refine lv_iload hx hb dX13_most_59 (lv_at hl 3 rfl) ?_
        refine lv_aload_n hx hb dX13_most_61 rfl (lv_at hl 5 rfl) ?_
        refine va_get (D := D) (ci := 10) (v := .ref (a 22)) (C := RX13) (T := TX13) (N := 45) hx hb hts in_X13_most_X13 hown hE.1 hP 0 rfl rfl 22 (by decide +kernel) (hts (.fieldLink RX13 63 "ClauseBookModel" "worthMuch" "[Z") (List.mem_of_getElem? (i := 2) rfl)) (fun _ h9 => h9) rfl dX13_most_62 ?_
        refine lv_iload hx hb dX13_most_65 (lv_at hl 1 rfl) ?_
        refine va_zald hx hb hE.1 hP 10 4 rfl rfl (by rw [vp_in_iff]; first | omega | (subst_vars; omega)) dX13_most_67 ?_
        refine lv_topi (fun z_19 ez_19 => ?_)
        have hBz_19 : isB z_19 := by rw [ez_19]; exact hZ _
        have hz9 : z_19.toInt = 0 ↔ ¬ ((VALW (lqW (q 0) (q 1) (q 2) (q 3) (q 4) (q 5) (q 6)) f8 f9 f10 f11 f_9) x1 x2 ss).2.toInt = 0 := mz_iff hv6 (by rw [ez_19, hsl6]) hq6
        refine lv_ior hx hb dX13_most_68 ?_
        refine lv_topi (fun z_20 ez_20 => ?_)
        have hBz_20 : isB z_20 := by rw [ez_20]; exact isB.or hBo hBz_19
        have ho9 : z_20.toInt = 0 ↔ (ov.toInt = 0 ∧ z_19.toInt = 0) := by rw [ez_20]; exact or_iff hBo hBz_19
        refine lv_istore (lv' := [(4, .int z_20), (7, .int r_18), (6, .int r_17), (5, .int ss), (3, .int be), (0, .ref h0), (1, .int x1), (2, .int x2)]) hx hb dX13_most_69 hl (by decide +kernel) rfl (fun ls hl => ?_)
        refine lv_aload_n hx hb dX13_most_71 rfl (lv_at hl 5 rfl) ?_
        refine va_get (D := D) (ci := 10) (v := .ref (a 20)) (C := RX13) (T := TX13) (N := 45) hx hb hts in_X13_most_X13 hown hE.1 hP 0 rfl rfl 20 (by decide +kernel) (hts (.fieldLink RX13 56 "ClauseBookModel" "worthAbove" "[J") (List.mem_of_getElem? (i := 3) rfl)) (fun _ h9 => h9) rfl dX13_most_72 ?_
        refine lv_iload hx hb dX13_most_75 (lv_at hl 2 rfl) ?_
        refine va_lald hx hb hE.1 hP 8 1 rfl rfl (by rw [vp_in_iff]; first | omega | (subst_vars; omega)) dX13_most_77 ?_
        refine lv_topl (fun z_21 ez_21 => ?_)
        refine lv_aload_n hx hb dX13_most_78 rfl (lv_at hl 5 rfl) ?_
        refine va_get (D := D) (ci := 10) (v := .ref (a 21)) (C := RX13) (T := TX13) (N := 45) hx hb hts in_X13_most_X13 hown hE.1 hP 0 rfl rfl 21 (by decide +kernel) (hts (.fieldLink RX13 60 "ClauseBookModel" "worthBelow" "[J") (List.mem_of_getElem? (i := 4) rfl)) (fun _ h9 => h9) rfl dX13_most_79 ?_
        refine lv_iload hx hb dX13_most_82 (lv_at hl 2 rfl) ?_
        refine va_lald hx hb hE.1 hP 9 1 rfl rfl (by rw [vp_in_iff]; first | omega | (subst_vars; omega)) dX13_most_84 ?_
        refine lv_topl (fun z_22 ez_22 => ?_)
        have hbz_22 : 1 ≤ z_22.toInt := by
          rw [ez_22]
          have h9 := tn (x := r_17) (by omega)
          exact hW1 _ (by omega)
        refine lv_aload_n hx hb dX13_most_85 rfl (lv_at hl 5 rfl) ?_
        refine va_get (D := D) (ci := 10) (v := .ref (a 20)) (C := RX13) (T := TX13) (N := 45) hx hb hts in_X13_most_X13 hown hE.1 hP 0 rfl rfl 20 (by decide +kernel) (hts (.fieldLink RX13 56 "ClauseBookModel" "worthAbove" "[J") (List.mem_of_getElem? (i := 3) rfl)) (fun _ h9 => h9) rfl dX13_most_86 ?_
        refine lv_iload hx hb dX13_most_89 (lv_at hl 1 rfl) ?_
        refine va_lald hx hb hE.1 hP 8 1 rfl rfl (by rw [vp_in_iff]; first | omega | (subst_vars; omega)) dX13_most_91 ?_
        refine lv_topl (fun z_23 ez_23 => ?_)
        refine lv_aload_n hx hb dX13_most_92 rfl (lv_at hl 5 rfl) ?_
        refine va_get (D := D) (ci := 10) (v := .ref (a 21)) (C := RX13) (T := TX13) (N := 45) hx hb hts in_X13_most_X13 hown hE.1 hP 0 rfl rfl 21 (by decide +kernel) (hts (.fieldLink RX13 60 "ClauseBookModel" "worthBelow" "[J") (List.mem_of_getElem? (i := 4) rfl)) (fun _ h9 => h9) rfl dX13_most_93 ?_
        refine lv_iload hx hb dX13_most_96 (lv_at hl 1 rfl) ?_
        refine va_lald hx hb hE.1 hP 9 1 rfl rfl (by rw [vp_in_iff]; first | omega | (subst_vars; omega)) dX13_most_98 ?_
        refine lv_topl (fun z_24 ez_24 => ?_)
        have hbz_24 : 1 ≤ z_24.toInt := by
          rw [ez_24]
          have h9 := tn (x := r_18) (by omega)
          exact hW1 _ (by omega)
        refine vp_callSi (W.runS (As := [.long z_21, .long z_22, .long z_23, .long z_24]) (rest := []) ⟨hx, hb, hml, hown, hts⟩ (cC_all l D T 127 z_21 z_22 z_23 z_24 (by omega) (by omega) (cmpT (by omega) (by omega))) (va_cwS 4 hts gX13_most_X13_compared rfl rfl rfl hs_X13_compared ⟨Nat.le_of_ble_eq_true rfl, Nat.le_of_ble_eq_true rfl⟩) (pR_S hP hE [] rfl) rfl rfl hl.1 rfl (lv_room (Nat.le_of_ble_eq_true rfl)) dX13_most_99 ⟨Nat.le_of_ble_eq_true rfl, Nat.le_of_ble_eq_true rfl⟩) (fun r_25 hr_25 => ?_)
        have hc9 : ¬ ((VALW (lqW (q 0) (q 1) (q 2) (q 3) (q 4) (q 5) (q 6)) f8 f9 f10 f11 f_9) x1 x2 ss).2.toInt = 0 → ¬ ((VALW (lqW (q 0) (q 1) (q 2) (q 3) (q 4) (q 5) (q 6)) f8 f9 f10 f11 f_9) x1 x2 be).2.toInt = 0 → cmpP ((VALW (lqW (q 0) (q 1) (q 2) (q 3) (q 4) (q 5) (q 6)) f8 f9 f10 f11 f_9) x1 x2 ss) ((VALW (lqW (q 0) (q 1) (q 2) (q 3) (q 4) (q 5) (q 6)) f8 f9 f10 f11 f_9) x1 x2 be) = r_25.toInt := fun h8 h7 => cm_of hv6 hv7 hq6 hq7 (by rw [hr_25, ez_21, ez_22, ez_23, ez_24, hsl6, hsl7]) h8 h7
        refine lv_if_le (tgt := 110) hx hb dX13_most_102 (by decide +kernel) (fun c_26 => ?_) (fun c_26 => ?_)
        · rw [fa_le] at c_26
          try rw [ti_0] at c_26
          refine lv_iload_n hx hb dX13_most_110 rfl (lv_at hl 4 rfl) ?_
          refine lv_istore_n (lv' := [(3, .int be), (4, .int z_20), (7, .int r_18), (6, .int r_17), (5, .int ss), (0, .ref h0), (1, .int x1), (2, .int x2)]) hx hb dX13_most_111 rfl hl (by decide +kernel) rfl (fun ls hl => ?_)
          obtain ⟨z_27, ez_27⟩ : ∃ y : Int32, y = ss + 1 := ⟨_, rfl⟩
          refine lv_iinc (v := z_27) (lv' := [(5, .int z_27), (3, .int be), (4, .int z_20), (7, .int r_18), (6, .int r_17), (0, .ref h0), (1, .int x1), (2, .int x2)]) hx hb dX13_most_112 hl (k := 4) rfl (by rw [ez_27]; rfl) (by decide +kernel) rfl (fun ls hl => ?_)
          refine lv_goto (tgt := 36) hx hb dX13_most_115 (by decide +kernel) ?_
          have hi9 : z_27.toInt = ss.toInt + 1 := by rw [ez_27]; exact inc1 (i := ss) (n := 1000) (by omega) (by decide +kernel)
          exact ih (z_27, z_20, be) ls ⟨lv_sub hl [0, 2, 1, 5, 6, 7] rfl, ⟨⟨(by (try dsimp only); omega), (by (try dsimp only); omega), (by (try dsimp only); omega), (by (try dsimp only); omega)⟩, hBz_20, moI_step hmo (by omega) hi9 hz9 ho9 hc9 (fun k9 => VAL_low (l := lqW (q 0) (q 1) (q 2) (q 3) (q 4) (q 5) (q 6)) hL.1 hL.2 31 _ _ _) (by first | exact Or.inl ⟨by omega, rfl⟩ | exact Or.inr ⟨by omega, rfl⟩)⟩⟩ (by (try dsimp only); omega)
        · rw [fa_le] at c_26
          try rw [ti_0] at c_26
          refine lv_iload hx hb dX13_most_105 (lv_at hl 3 rfl) ?_
          refine lv_goto (tgt := 111) hx hb dX13_most_107 (by decide +kernel) ?_
          refine lv_istore_n (lv' := [(3, .int ss), (4, .int z_20), (7, .int r_18), (6, .int r_17), (5, .int ss), (0, .ref h0), (1, .int x1), (2, .int x2)]) hx hb dX13_most_111 rfl hl (by decide +kernel) rfl (fun ls hl => ?_)
          obtain ⟨z_28, ez_28⟩ : ∃ y : Int32, y = ss + 1 := ⟨_, rfl⟩
          refine lv_iinc (v := z_28) (lv' := [(5, .int z_28), (3, .int ss), (4, .int z_20), (7, .int r_18), (6, .int r_17), (0, .ref h0), (1, .int x1), (2, .int x2)]) hx hb dX13_most_112 hl (k := 4) rfl (by rw [ez_28]; rfl) (by decide +kernel) rfl (fun ls hl => ?_)
          refine lv_goto (tgt := 36) hx hb dX13_most_115 (by decide +kernel) ?_
          have hi9 : z_28.toInt = ss.toInt + 1 := by rw [ez_28]; exact inc1 (i := ss) (n := 1000) (by omega) (by decide +kernel)
          exact ih (z_28, z_20, ss) ls ⟨lv_sub hl [0, 2, 1, 5, 6, 7] rfl, ⟨⟨(by (try dsimp only); omega), (by (try dsimp only); omega), (by (try dsimp only); omega), (by (try dsimp only); omega)⟩, hBz_20, moI_step hmo (by omega) hi9 hz9 ho9 hc9 (fun k9 => VAL_low (l := lqW (q 0) (q 1) (q 2) (q 3) (q 4) (q 5) (q 6)) hL.1 hL.2 31 _ _ _) (by first | exact Or.inl ⟨by omega, rfl⟩ | exact Or.inr ⟨by omega, rfl⟩)⟩⟩ (by (try dsimp only); omega)
    · refine lv_if_ne (tgt := 23) hx hb dX13_most_17 (by decide +kernel) (fun c9 => absurd c9 (by decide +kernel)) (fun _ => ?_)
      refine lv_bipush (v := (-2)) hx hb dX13_most_20 (by decide +kernel) ?_
      exact W.iret hx hb hr (fun t ht hW => ⟨⟨_, ((q 14), v, w, f17, f18, f19, f20, f21, f22), rfl, ⟨(show isB (q 14) from hB), (show ∀ j : Nat, isB (f22 j) from hZ), (show (0 ≤ x1.toInt ∧ x1.toInt < (q 7).toInt) ∧ 0 ≤ x2.toInt ∧ x2.toInt ≤ 6 → ∀ j : Nat, (j : Int) < (q 7).toInt → mesP f8 f9 f10 f11 f17 f18 f19 j from (fun h9 => by exfalso; obtain ⟨h1, h2⟩ := h9; omega)), (show mostQ (VALW (lqW (q 0) (q 1) (q 2) (q 3) (q 4) (q 5) (q 6)) f8 f9 f10 f11 f17) (q 7) x1 x2 ((-2) : Int32) from (Or.inl ⟨(fun h9 => by obtain ⟨h1, h2⟩ := h9; omega), (by decide +kernel)⟩))⟩, by rw [ht]; exact hP.sub [0, 1, 2, 3, 4, 5, 6, 7, 8, 9, 10] rfl, hD.sub [0, 1, 2, 3, 4, 5, 6, 7, 8, 9, 10] (by decide +kernel) rfl⟩, hS.F ht⟩) hS.2.2 dX13_most_22
  · refine lv_if_eq (tgt := 20) hx hb dX13_most_5 (by decide +kernel) (fun _ => ?_) (fun c9 => absurd c9 (by decide +kernel))
    refine lv_bipush (v := (-2)) hx hb dX13_most_20 (by decide +kernel) ?_
    exact W.iret hx hb hr (fun t ht hW => ⟨⟨_, ((q 14), v, w, f17, f18, f19, f20, f21, f22), rfl, ⟨(show isB (q 14) from hB), (show ∀ j : Nat, isB (f22 j) from hZ), (show (0 ≤ x1.toInt ∧ x1.toInt < (q 7).toInt) ∧ 0 ≤ x2.toInt ∧ x2.toInt ≤ 6 → ∀ j : Nat, (j : Int) < (q 7).toInt → mesP f8 f9 f10 f11 f17 f18 f19 j from (fun h9 => by exfalso; obtain ⟨h1, h2⟩ := h9; omega)), (show mostQ (VALW (lqW (q 0) (q 1) (q 2) (q 3) (q 4) (q 5) (q 6)) f8 f9 f10 f11 f17) (q 7) x1 x2 ((-2) : Int32) from (Or.inl ⟨(fun h9 => by obtain ⟨h1, h2⟩ := h9; omega), (by decide +kernel)⟩))⟩, by rw [ht]; exact hP.sub [0, 1, 2, 3, 4, 5, 6, 7, 8, 9, 10] rfl, hD.sub [0, 1, 2, 3, 4, 5, 6, 7, 8, 9, 10] (by decide +kernel) rfl⟩, hS.F ht⟩) hS.2.2 dX13_most_22
theorem dX13_alike_0 : decode cX13_alike 0 = .ok (.aload_n 0, 1) := by decide +kernel
theorem dX13_alike_1 : decode cX13_alike 1 = .ok (.iload_n 1, 1) := by decide +kernel
theorem dX13_alike_10 : decode cX13_alike 10 = .ok (.invokevirtual 233, 3) := by decide +kernel
theorem dX13_alike_100 : decode cX13_alike 100 = .ok (.goto 4, 3) := by decide +kernel
theorem dX13_alike_103 : decode cX13_alike 103 = .ok (.iconst 0, 1) := by decide +kernel
theorem dX13_alike_104 : decode cX13_alike 104 = .ok (.ior, 1) := by decide +kernel
theorem dX13_alike_105 : decode cX13_alike 105 = .ok (.istore 4, 2) := by decide +kernel
theorem dX13_alike_107 : decode cX13_alike 107 = .ok (.iload_n 3, 1) := by decide +kernel
theorem dX13_alike_108 : decode cX13_alike 108 = .ok (.aload_n 0, 1) := by decide +kernel
theorem dX13_alike_109 : decode cX13_alike 109 = .ok (.getfield 56, 3) := by decide +kernel
theorem dX13_alike_112 : decode cX13_alike 112 = .ok (.bipush 28, 2) := by decide +kernel
theorem dX13_alike_114 : decode cX13_alike 114 = .ok (.iload_n 1, 1) := by decide +kernel
theorem dX13_alike_115 : decode cX13_alike 115 = .ok (.imul, 1) := by decide +kernel
theorem dX13_alike_116 : decode cX13_alike 116 = .ok (.iload 5, 2) := by decide +kernel
theorem dX13_alike_118 : decode cX13_alike 118 = .ok (.iadd, 1) := by decide +kernel
theorem dX13_alike_119 : decode cX13_alike 119 = .ok (.laload, 1) := by decide +kernel
theorem dX13_alike_120 : decode cX13_alike 120 = .ok (.aload_n 0, 1) := by decide +kernel
theorem dX13_alike_121 : decode cX13_alike 121 = .ok (.getfield 56, 3) := by decide +kernel
theorem dX13_alike_124 : decode cX13_alike 124 = .ok (.bipush 28, 2) := by decide +kernel
theorem dX13_alike_126 : decode cX13_alike 126 = .ok (.iload_n 2, 1) := by decide +kernel
theorem dX13_alike_127 : decode cX13_alike 127 = .ok (.imul, 1) := by decide +kernel
theorem dX13_alike_128 : decode cX13_alike 128 = .ok (.iload 5, 2) := by decide +kernel
theorem dX13_alike_13 : decode cX13_alike 13 = .ok (.ifCond .ne 6, 3) := by decide +kernel
theorem dX13_alike_130 : decode cX13_alike 130 = .ok (.iadd, 1) := by decide +kernel
theorem dX13_alike_131 : decode cX13_alike 131 = .ok (.laload, 1) := by decide +kernel
theorem dX13_alike_132 : decode cX13_alike 132 = .ok (.lcmp, 1) := by decide +kernel
theorem dX13_alike_133 : decode cX13_alike 133 = .ok (.ifCond .ne 35, 3) := by decide +kernel
theorem dX13_alike_136 : decode cX13_alike 136 = .ok (.aload_n 0, 1) := by decide +kernel
theorem dX13_alike_137 : decode cX13_alike 137 = .ok (.getfield 60, 3) := by decide +kernel
theorem dX13_alike_140 : decode cX13_alike 140 = .ok (.bipush 28, 2) := by decide +kernel
theorem dX13_alike_142 : decode cX13_alike 142 = .ok (.iload_n 1, 1) := by decide +kernel
theorem dX13_alike_143 : decode cX13_alike 143 = .ok (.imul, 1) := by decide +kernel
theorem dX13_alike_144 : decode cX13_alike 144 = .ok (.iload 5, 2) := by decide +kernel
theorem dX13_alike_146 : decode cX13_alike 146 = .ok (.iadd, 1) := by decide +kernel
theorem dX13_alike_147 : decode cX13_alike 147 = .ok (.laload, 1) := by decide +kernel
theorem dX13_alike_148 : decode cX13_alike 148 = .ok (.aload_n 0, 1) := by decide +kernel
theorem dX13_alike_149 : decode cX13_alike 149 = .ok (.getfield 60, 3) := by decide +kernel
theorem dX13_alike_152 : decode cX13_alike 152 = .ok (.bipush 28, 2) := by decide +kernel
theorem dX13_alike_154 : decode cX13_alike 154 = .ok (.iload_n 2, 1) := by decide +kernel
theorem dX13_alike_155 : decode cX13_alike 155 = .ok (.imul, 1) := by decide +kernel
theorem dX13_alike_156 : decode cX13_alike 156 = .ok (.iload 5, 2) := by decide +kernel
theorem dX13_alike_158 : decode cX13_alike 158 = .ok (.iadd, 1) := by decide +kernel
theorem dX13_alike_159 : decode cX13_alike 159 = .ok (.laload, 1) := by decide +kernel
theorem dX13_alike_16 : decode cX13_alike 16 = .ok (.bipush (-2), 2) := by decide +kernel
theorem dX13_alike_160 : decode cX13_alike 160 = .ok (.lcmp, 1) := by decide +kernel
theorem dX13_alike_161 : decode cX13_alike 161 = .ok (.ifCond .ne 7, 3) := by decide +kernel
theorem dX13_alike_164 : decode cX13_alike 164 = .ok (.iconst 1, 1) := by decide +kernel
theorem dX13_alike_165 : decode cX13_alike 165 = .ok (.goto 4, 3) := by decide +kernel
theorem dX13_alike_168 : decode cX13_alike 168 = .ok (.iconst 0, 1) := by decide +kernel
theorem dX13_alike_169 : decode cX13_alike 169 = .ok (.iand, 1) := by decide +kernel
theorem dX13_alike_170 : decode cX13_alike 170 = .ok (.istore_n 3, 1) := by decide +kernel
theorem dX13_alike_171 : decode cX13_alike 171 = .ok (.iinc 5 1, 3) := by decide +kernel
theorem dX13_alike_174 : decode cX13_alike 174 = .ok (.goto (-114), 3) := by decide +kernel
theorem dX13_alike_177 : decode cX13_alike 177 = .ok (.iload 4, 2) := by decide +kernel
theorem dX13_alike_179 : decode cX13_alike 179 = .ok (.ifCond .eq 8, 3) := by decide +kernel
theorem dX13_alike_18 : decode cX13_alike 18 = .ok (.ireturn, 1) := by decide +kernel
theorem dX13_alike_182 : decode cX13_alike 182 = .ok (.bipush (-5), 2) := by decide +kernel
theorem dX13_alike_184 : decode cX13_alike 184 = .ok (.goto 12, 3) := by decide +kernel
theorem dX13_alike_187 : decode cX13_alike 187 = .ok (.iload_n 3, 1) := by decide +kernel
theorem dX13_alike_188 : decode cX13_alike 188 = .ok (.ifCond .eq 7, 3) := by decide +kernel
theorem dX13_alike_19 : decode cX13_alike 19 = .ok (.aload_n 0, 1) := by decide +kernel
theorem dX13_alike_191 : decode cX13_alike 191 = .ok (.iconst 1, 1) := by decide +kernel
theorem dX13_alike_192 : decode cX13_alike 192 = .ok (.goto 4, 3) := by decide +kernel
theorem dX13_alike_195 : decode cX13_alike 195 = .ok (.iconst 0, 1) := by decide +kernel
theorem dX13_alike_196 : decode cX13_alike 196 = .ok (.ireturn, 1) := by decide +kernel
theorem dX13_alike_2 : decode cX13_alike 2 = .ok (.invokevirtual 233, 3) := by decide +kernel
theorem dX13_alike_20 : decode cX13_alike 20 = .ok (.iload_n 1, 1) := by decide +kernel
theorem dX13_alike_21 : decode cX13_alike 21 = .ok (.iload_n 2, 1) := by decide +kernel
theorem dX13_alike_22 : decode cX13_alike 22 = .ok (.if_icmp .le 7, 3) := by decide +kernel
theorem dX13_alike_25 : decode cX13_alike 25 = .ok (.iload_n 1, 1) := by decide +kernel
theorem dX13_alike_26 : decode cX13_alike 26 = .ok (.goto 4, 3) := by decide +kernel
theorem dX13_alike_29 : decode cX13_alike 29 = .ok (.iload_n 2, 1) := by decide +kernel
theorem dX13_alike_30 : decode cX13_alike 30 = .ok (.invokevirtual 274, 3) := by decide +kernel
theorem dX13_alike_33 : decode cX13_alike 33 = .ok (.aload_n 0, 1) := by decide +kernel
theorem dX13_alike_34 : decode cX13_alike 34 = .ok (.getfield 47, 3) := by decide +kernel
theorem dX13_alike_37 : decode cX13_alike 37 = .ok (.iload_n 1, 1) := by decide +kernel
theorem dX13_alike_38 : decode cX13_alike 38 = .ok (.iaload, 1) := by decide +kernel
theorem dX13_alike_39 : decode cX13_alike 39 = .ok (.aload_n 0, 1) := by decide +kernel
theorem dX13_alike_40 : decode cX13_alike 40 = .ok (.getfield 47, 3) := by decide +kernel
theorem dX13_alike_43 : decode cX13_alike 43 = .ok (.iload_n 2, 1) := by decide +kernel
theorem dX13_alike_44 : decode cX13_alike 44 = .ok (.iaload, 1) := by decide +kernel
theorem dX13_alike_45 : decode cX13_alike 45 = .ok (.if_icmp .ne 7, 3) := by decide +kernel
theorem dX13_alike_48 : decode cX13_alike 48 = .ok (.iconst 1, 1) := by decide +kernel
theorem dX13_alike_49 : decode cX13_alike 49 = .ok (.goto 4, 3) := by decide +kernel
theorem dX13_alike_5 : decode cX13_alike 5 = .ok (.ifCond .eq 11, 3) := by decide +kernel
theorem dX13_alike_52 : decode cX13_alike 52 = .ok (.iconst 0, 1) := by decide +kernel
theorem dX13_alike_53 : decode cX13_alike 53 = .ok (.istore_n 3, 1) := by decide +kernel
theorem dX13_alike_54 : decode cX13_alike 54 = .ok (.iconst 0, 1) := by decide +kernel
theorem dX13_alike_55 : decode cX13_alike 55 = .ok (.istore 4, 2) := by decide +kernel
theorem dX13_alike_57 : decode cX13_alike 57 = .ok (.iconst 0, 1) := by decide +kernel
theorem dX13_alike_58 : decode cX13_alike 58 = .ok (.istore 5, 2) := by decide +kernel
theorem dX13_alike_60 : decode cX13_alike 60 = .ok (.iload 5, 2) := by decide +kernel
theorem dX13_alike_62 : decode cX13_alike 62 = .ok (.bipush 28, 2) := by decide +kernel
theorem dX13_alike_64 : decode cX13_alike 64 = .ok (.if_icmp .ge 113, 3) := by decide +kernel
theorem dX13_alike_67 : decode cX13_alike 67 = .ok (.iload 4, 2) := by decide +kernel
theorem dX13_alike_69 : decode cX13_alike 69 = .ok (.aload_n 0, 1) := by decide +kernel
theorem dX13_alike_70 : decode cX13_alike 70 = .ok (.getfield 63, 3) := by decide +kernel
theorem dX13_alike_73 : decode cX13_alike 73 = .ok (.bipush 28, 2) := by decide +kernel
theorem dX13_alike_75 : decode cX13_alike 75 = .ok (.iload_n 1, 1) := by decide +kernel
theorem dX13_alike_76 : decode cX13_alike 76 = .ok (.imul, 1) := by decide +kernel
theorem dX13_alike_77 : decode cX13_alike 77 = .ok (.iload 5, 2) := by decide +kernel
theorem dX13_alike_79 : decode cX13_alike 79 = .ok (.iadd, 1) := by decide +kernel
theorem dX13_alike_8 : decode cX13_alike 8 = .ok (.aload_n 0, 1) := by decide +kernel
theorem dX13_alike_80 : decode cX13_alike 80 = .ok (.baload, 1) := by decide +kernel
theorem dX13_alike_81 : decode cX13_alike 81 = .ok (.ifCond .ne 18, 3) := by decide +kernel
theorem dX13_alike_84 : decode cX13_alike 84 = .ok (.aload_n 0, 1) := by decide +kernel
theorem dX13_alike_85 : decode cX13_alike 85 = .ok (.getfield 63, 3) := by decide +kernel
theorem dX13_alike_88 : decode cX13_alike 88 = .ok (.bipush 28, 2) := by decide +kernel
theorem dX13_alike_9 : decode cX13_alike 9 = .ok (.iload_n 2, 1) := by decide +kernel
theorem dX13_alike_90 : decode cX13_alike 90 = .ok (.iload_n 2, 1) := by decide +kernel
theorem dX13_alike_91 : decode cX13_alike 91 = .ok (.imul, 1) := by decide +kernel
theorem dX13_alike_92 : decode cX13_alike 92 = .ok (.iload 5, 2) := by decide +kernel
theorem dX13_alike_94 : decode cX13_alike 94 = .ok (.iadd, 1) := by decide +kernel
theorem dX13_alike_95 : decode cX13_alike 95 = .ok (.baload, 1) := by decide +kernel
theorem dX13_alike_96 : decode cX13_alike 96 = .ok (.ifCond .eq 7, 3) := by decide +kernel
theorem dX13_alike_99 : decode cX13_alike 99 = .ok (.iconst 1, 1) := by decide +kernel
set_option maxRecDepth 20000 in
theorem ggX13_alike_X13_isClause : GoodIn wsX13_alike wsX13_isClause := goodIn_r _ [9, 10, 11, 12, 8, 13, 111, 112, 113, 114, 115, 116, 117, 118, 119, 120, 121, 122, 123, 124, 125, 126, 127, 128, 129, 130, 131, 132, 133, 134, 135, 136, 137, 138, 139, 140, 141, 142, 143, 144, 145, 146, 147, 148, 149, 150, 151, 152, 153, 154, 155] rfl (by decide +kernel)
set_option maxRecDepth 40000 in
theorem ggX13_alike_X13_laysWorths_0 : GoodIn wsX13_alike [.code yX13_laysWorths cX13_laysWorths 6 none] := goodIn_r _ [17] rfl (by decide +kernel)
set_option maxRecDepth 40000 in
theorem ggX13_alike_X13_laysWorths_1 : GoodIn wsX13_alike wsX13_laysWorths_r1 := goodIn_r _ [18, 1, 2, 3, 19, 4, 20, 21, 22, 23, 8, 24, 10, 25, 26, 27, 28, 29, 30, 31, 32, 33, 34, 35] rfl (by decide +kernel)
set_option maxRecDepth 40000 in
theorem ggX13_alike_X13_laysWorths_2 : GoodIn wsX13_alike wsX13_laysWorths_r2 := goodIn_r _ [36, 37, 38, 39, 40, 41, 42, 43, 44, 45, 46, 47, 48, 49, 50, 51, 52, 53, 54, 55, 56, 57, 58, 59] rfl (by decide +kernel)
set_option maxRecDepth 40000 in
theorem ggX13_alike_X13_laysWorths_3 : GoodIn wsX13_alike wsX13_laysWorths_r3 := goodIn_r _ [60, 61, 62, 63, 64, 65, 66, 67, 68, 69, 70, 71, 72, 73, 74, 75, 76, 77, 78, 79, 80, 81, 82, 83] rfl (by decide +kernel)
set_option maxRecDepth 40000 in
theorem ggX13_alike_X13_laysWorths_4 : GoodIn wsX13_alike wsX13_laysWorths_r4 := goodIn_r _ [84, 85, 86, 87, 88, 89, 90, 91, 92, 93, 94, 95, 96, 97, 98, 99, 100, 101, 102, 103, 104, 105, 106, 107] rfl (by decide +kernel)
set_option maxRecDepth 40000 in
theorem ggX13_alike_X13_laysWorths_5 : GoodIn wsX13_alike wsX13_laysWorths_r5 := goodIn_r _ [108, 109, 110] rfl (by decide +kernel)
set_option maxRecDepth 40000 in
theorem ggX13_alike_X13_laysWorths_6 : GoodIn wsX13_alike wsX130 := goodIn_r _ [111, 112, 113, 114, 115, 116, 117, 118, 119, 120, 121, 122, 123, 124, 125, 126, 127, 128, 129, 130, 131, 132, 133, 134, 135, 136, 137, 138, 139, 140, 141, 142, 143, 144, 145, 146, 147, 148, 149, 150, 151, 152, 153, 154, 155] rfl (by decide +kernel)
set_option maxRecDepth 40000 in
theorem ggX13_alike_X13_laysWorths : GoodIn wsX13_alike wsX13_laysWorths := (goodIn_app ggX13_alike_X13_laysWorths_0 (goodIn_app (goodIn_app ggX13_alike_X13_laysWorths_1 (goodIn_app ggX13_alike_X13_laysWorths_2 (goodIn_app ggX13_alike_X13_laysWorths_3 (goodIn_app ggX13_alike_X13_laysWorths_4 ggX13_alike_X13_laysWorths_5)))) ggX13_alike_X13_laysWorths_6))
set_option maxRecDepth 20000 in
theorem gX13_alike_X13_isClause : GoodIn wsX13_alike (wsV RX13 233 RX13 yX13_isClause wsX13_isClause) := goodIn_app (goodIn_r _ [5, 6, 7, 8] rfl (by decide +kernel)) ggX13_alike_X13_isClause
set_option maxRecDepth 20000 in
theorem gX13_alike_X13_laysWorths : GoodIn wsX13_alike (wsV RX13 274 RX13 yX13_laysWorths wsX13_laysWorths) := goodIn_app (goodIn_r _ [14, 15, 16, 8] rfl (by decide +kernel)) ggX13_alike_X13_laysWorths
set_option maxRecDepth 20000 in
theorem in_X13_alike_X13 : ∀ w ∈ wsX130, w ∈ wsX13_alike := sub_r [111, 112, 113, 114, 115, 116, 117, 118, 119, 120, 121, 122, 123, 124, 125, 126, 127, 128, 129, 130, 131, 132, 133, 134, 135, 136, 137, 138, 139, 140, 141, 142, 143, 144, 145, 146, 147, 148, 149, 150, 151, 152, 153, 154, 155] rfl
set_option maxHeartbeats 4000000 in
set_option maxRecDepth 100000 in
theorem c_X13_alike (l : Launch) (D : va_G) (T : Nat → ClassId) (sz : Nat) (h0 : Nat) (q : Nat → Int32) (v : Int64) (w : Int64) (a : Nat → Nat) (f8 : Nat → Int32) (f9 : Nat → Int32) (f10 : Nat → Int32) (f11 : Nat → Int32) (f17 : Nat → Int32) (f18 : Nat → Int32) (f19 : Nat → Int32) (f20 : Nat → Int64) (f21 : Nat → Int64) (f22 : Nat → Int32) (x1 : Int32) (x2 : Int32) (hB : isB (q 14)) (hm : 0 ≤ (q 7).toInt ∧ (q 7).toInt ≤ 24) (hokR : okR f8 f10 f11) (hZ : ∀ j : Nat, isB (f22 j)) (hL : (1 ≤ (q 4).toInt ∧ (q 4).toInt ≤ 9) ∧ 1 ≤ (q 6).toInt ∧ (q 6).toInt ≤ 9) : Met l yX13_alike wsX13_alike ({ frames := 134, cells := 0, slots := 0, locals := 5283 }) (pW [.ref h0, .int x1, .int x2] D T [(h0, .inr (10, (Value.int (q 0) :: Value.int (q 1) :: Value.int (q 2) :: Value.int (q 3) :: Value.int (q 4) :: Value.int (q 5) :: Value.int (q 6) :: Value.int (q 7) :: Value.ref (a 8) :: Value.ref (a 9) :: Value.ref (a 10) :: Value.ref (a 11) :: Value.ref (a 12) :: Value.ref (a 13) :: Value.int (q 14) :: Value.long v :: Value.long w :: Value.ref (a 17) :: Value.ref (a 18) :: Value.ref (a 19) :: Value.ref (a 20) :: Value.ref (a 21) :: Value.ref (a 22) :: Value.ref (a 23) :: Value.int (q 24) :: Value.ref (a 25) :: Value.int (q 26) :: Value.ref (a 27) :: Value.int (q 28) :: Value.int (q 29) :: Value.int (q 30) :: Value.int (q 31) :: Value.int (q 32) :: Value.int (q 33) :: Value.ref (a 34) :: Value.ref (a 35) :: Value.ref (a 36) :: Value.ref (a 37) :: Value.ref (a 38) :: Value.ref (a 39) :: Value.ref (a 40) :: Value.int (q 41) :: Value.ref (a 42) :: Value.int (q 43) :: Value.int (q 44) :: []))), ((a 8), .inl (T 0, 24, .inl f8)), ((a 9), .inl (T 0, 24, .inl f9)), ((a 10), .inl (T 0, 24, .inl f10)), ((a 11), .inl (T 0, 24, .inl f11)), ((a 17), .inl (T 0, 24, .inl f17)), ((a 18), .inl (T 0, 24, .inl f18)), ((a 19), .inl (T 0, 24, .inl f19)), ((a 20), .inl (T 1, 672, .inr (.inl f20))), ((a 21), .inl (T 1, 672, .inr (.inl f21))), ((a 22), .inl (T 4, 672, .inl f22))] sz) (va_Qi (fun (r : Int32) (u : (Int32) × (Int64) × (Int64) × (Nat → Int32) × (Nat → Int32) × (Nat → Int32) × (Nat → Int64) × (Nat → Int64) × (Nat → Int32)) => (isB u.1) ∧ (∀ j : Nat, isB (u.2.2.2.2.2.2.2.2 j)) ∧ ((0 ≤ x1.toInt ∧ x1.toInt < (q 7).toInt) ∧ 0 ≤ x2.toInt ∧ x2.toInt < (q 7).toInt → ∀ j : Nat, (j : Int) < (q 7).toInt → mesP f8 f9 f10 f11 u.2.2.2.1 u.2.2.2.2.1 u.2.2.2.2.2.1 j) ∧ (alkQ (VALW (lqW (q 0) (q 1) (q 2) (q 3) (q 4) (q 5) (q 6)) f8 f9 f10 f11 u.2.2.2.1) u.2.2.2.1 (q 7) x1 x2 r)) (bW D (va_A [(h0, .inr (10, (Value.int (q 0) :: Value.int (q 1) :: Value.int (q 2) :: Value.int (q 3) :: Value.int (q 4) :: Value.int (q 5) :: Value.int (q 6) :: Value.int (q 7) :: Value.ref (a 8) :: Value.ref (a 9) :: Value.ref (a 10) :: Value.ref (a 11) :: Value.ref (a 12) :: Value.ref (a 13) :: Value.int (q 14) :: Value.long v :: Value.long w :: Value.ref (a 17) :: Value.ref (a 18) :: Value.ref (a 19) :: Value.ref (a 20) :: Value.ref (a 21) :: Value.ref (a 22) :: Value.ref (a 23) :: Value.int (q 24) :: Value.ref (a 25) :: Value.int (q 26) :: Value.ref (a 27) :: Value.int (q 28) :: Value.int (q 29) :: Value.int (q 30) :: Value.int (q 31) :: Value.int (q 32) :: Value.int (q 33) :: Value.ref (a 34) :: Value.ref (a 35) :: Value.ref (a 36) :: Value.ref (a 37) :: Value.ref (a 38) :: Value.ref (a 39) :: Value.ref (a 40) :: Value.int (q 41) :: Value.ref (a 42) :: Value.int (q 43) :: Value.int (q 44) :: []))), ((a 8), .inl (T 0, 24, .inl f8)), ((a 9), .inl (T 0, 24, .inl f9)), ((a 10), .inl (T 0, 24, .inl f10)), ((a 11), .inl (T 0, 24, .inl f11)), ((a 17), .inl (T 0, 24, .inl f17)), ((a 18), .inl (T 0, 24, .inl f18)), ((a 19), .inl (T 0, 24, .inl f19)), ((a 20), .inl (T 1, 672, .inr (.inl f20))), ((a 21), .inl (T 1, 672, .inr (.inl f21))), ((a 22), .inl (T 4, 672, .inl f22))] sz) (fun (u : (Int32) × (Int64) × (Int64) × (Nat → Int32) × (Nat → Int32) × (Nat → Int32) × (Nat → Int64) × (Nat → Int64) × (Nat → Int32)) => [(h0, .inr (10, (Value.int (q 0) :: Value.int (q 1) :: Value.int (q 2) :: Value.int (q 3) :: Value.int (q 4) :: Value.int (q 5) :: Value.int (q 6) :: Value.int (q 7) :: Value.ref (a 8) :: Value.ref (a 9) :: Value.ref (a 10) :: Value.ref (a 11) :: Value.ref (a 12) :: Value.ref (a 13) :: Value.int u.1 :: Value.long u.2.1 :: Value.long u.2.2.1 :: Value.ref (a 17) :: Value.ref (a 18) :: Value.ref (a 19) :: Value.ref (a 20) :: Value.ref (a 21) :: Value.ref (a 22) :: Value.ref (a 23) :: Value.int (q 24) :: Value.ref (a 25) :: Value.int (q 26) :: Value.ref (a 27) :: Value.int (q 28) :: Value.int (q 29) :: Value.int (q 30) :: Value.int (q 31) :: Value.int (q 32) :: Value.int (q 33) :: Value.ref (a 34) :: Value.ref (a 35) :: Value.ref (a 36) :: Value.ref (a 37) :: Value.ref (a 38) :: Value.ref (a 39) :: Value.ref (a 40) :: Value.int (q 41) :: Value.ref (a 42) :: Value.int (q 43) :: Value.int (q 44) :: []))), ((a 8), .inl (T 0, 24, .inl f8)), ((a 9), .inl (T 0, 24, .inl f9)), ((a 10), .inl (T 0, 24, .inl f10)), ((a 11), .inl (T 0, 24, .inl f11)), ((a 17), .inl (T 0, 24, .inl u.2.2.2.1)), ((a 18), .inl (T 0, 24, .inl u.2.2.2.2.1)), ((a 19), .inl (T 0, 24, .inl u.2.2.2.2.2.1)), ((a 20), .inl (T 1, 672, .inr (.inl u.2.2.2.2.2.2.1))), ((a 21), .inl (T 1, 672, .inr (.inl u.2.2.2.2.2.2.2.1))), ((a 22), .inl (T 4, 672, .inl u.2.2.2.2.2.2.2.2))])) (va_A [(h0, .inr (10, (Value.int (q 0) :: Value.int (q 1) :: Value.int (q 2) :: Value.int (q 3) :: Value.int (q 4) :: Value.int (q 5) :: Value.int (q 6) :: Value.int (q 7) :: Value.ref (a 8) :: Value.ref (a 9) :: Value.ref (a 10) :: Value.ref (a 11) :: Value.ref (a 12) :: Value.ref (a 13) :: Value.int (q 14) :: Value.long v :: Value.long w :: Value.ref (a 17) :: Value.ref (a 18) :: Value.ref (a 19) :: Value.ref (a 20) :: Value.ref (a 21) :: Value.ref (a 22) :: Value.ref (a 23) :: Value.int (q 24) :: Value.ref (a 25) :: Value.int (q 26) :: Value.ref (a 27) :: Value.int (q 28) :: Value.int (q 29) :: Value.int (q 30) :: Value.int (q 31) :: Value.int (q 32) :: Value.int (q 33) :: Value.ref (a 34) :: Value.ref (a 35) :: Value.ref (a 36) :: Value.ref (a 37) :: Value.ref (a 38) :: Value.ref (a 39) :: Value.ref (a 40) :: Value.int (q 41) :: Value.ref (a 42) :: Value.int (q 43) :: Value.int (q 44) :: []))), ((a 8), .inl (T 0, 24, .inl f8)), ((a 9), .inl (T 0, 24, .inl f9)), ((a 10), .inl (T 0, 24, .inl f10)), ((a 11), .inl (T 0, 24, .inl f11)), ((a 17), .inl (T 0, 24, .inl f17)), ((a 18), .inl (T 0, 24, .inl f18)), ((a 19), .inl (T 0, 24, .inl f19)), ((a 20), .inl (T 1, 672, .inr (.inl f20))), ((a 21), .inl (T 1, 672, .inr (.inl f21))), ((a 22), .inl (T 4, 672, .inl f22))] sz)) 0 0 (va_A [(h0, .inr (10, (Value.int (q 0) :: Value.int (q 1) :: Value.int (q 2) :: Value.int (q 3) :: Value.int (q 4) :: Value.int (q 5) :: Value.int (q 6) :: Value.int (q 7) :: Value.ref (a 8) :: Value.ref (a 9) :: Value.ref (a 10) :: Value.ref (a 11) :: Value.ref (a 12) :: Value.ref (a 13) :: Value.int (q 14) :: Value.long v :: Value.long w :: Value.ref (a 17) :: Value.ref (a 18) :: Value.ref (a 19) :: Value.ref (a 20) :: Value.ref (a 21) :: Value.ref (a 22) :: Value.ref (a 23) :: Value.int (q 24) :: Value.ref (a 25) :: Value.int (q 26) :: Value.ref (a 27) :: Value.int (q 28) :: Value.int (q 29) :: Value.int (q 30) :: Value.int (q 31) :: Value.int (q 32) :: Value.int (q 33) :: Value.ref (a 34) :: Value.ref (a 35) :: Value.ref (a 36) :: Value.ref (a 37) :: Value.ref (a 38) :: Value.ref (a 39) :: Value.ref (a 40) :: Value.int (q 41) :: Value.ref (a 42) :: Value.int (q 43) :: Value.int (q 44) :: []))), ((a 8), .inl (T 0, 24, .inl f8)), ((a 9), .inl (T 0, 24, .inl f9)), ((a 10), .inl (T 0, 24, .inl f10)), ((a 11), .inl (T 0, 24, .inl f11)), ((a 17), .inl (T 0, 24, .inl f17)), ((a 18), .inl (T 0, 24, .inl f18)), ((a 19), .inl (T 0, 24, .inl f19)), ((a 20), .inl (T 1, 672, .inr (.inl f20))), ((a 21), .inl (T 1, 672, .inr (.inl f21))), ((a 22), .inl (T 4, 672, .inl f22))] sz) := by
  refine Met.ofW (cc := cX13_alike) (maxL := 6) (ret := (some .int)) (by decide +kernel) rfl ?_
  intro p e s m args below meth c s₁ B hml hv
  obtain ⟨rfl, hsz, hP, hE, hD0⟩ := hv
  have hx := B.exec
  have hb := B.bytes
  have hr := B.returns
  have hts := atoms_spec (ws := wsX13_alike) B.pre
  have hown : s.vm.findClass RX13 = some m.cls := findClass_of_methodNamed B.named
  have hlocks := B.notSynchronized
  subst hsz
  have hD := hD0.self (sz := s.heap.size)
  generalize hAe : va_A [(h0, .inr (10, (Value.int (q 0) :: Value.int (q 1) :: Value.int (q 2) :: Value.int (q 3) :: Value.int (q 4) :: Value.int (q 5) :: Value.int (q 6) :: Value.int (q 7) :: Value.ref (a 8) :: Value.ref (a 9) :: Value.ref (a 10) :: Value.ref (a 11) :: Value.ref (a 12) :: Value.ref (a 13) :: Value.int (q 14) :: Value.long v :: Value.long w :: Value.ref (a 17) :: Value.ref (a 18) :: Value.ref (a 19) :: Value.ref (a 20) :: Value.ref (a 21) :: Value.ref (a 22) :: Value.ref (a 23) :: Value.int (q 24) :: Value.ref (a 25) :: Value.int (q 26) :: Value.ref (a 27) :: Value.int (q 28) :: Value.int (q 29) :: Value.int (q 30) :: Value.int (q 31) :: Value.int (q 32) :: Value.int (q 33) :: Value.ref (a 34) :: Value.ref (a 35) :: Value.ref (a 36) :: Value.ref (a 37) :: Value.ref (a 38) :: Value.ref (a 39) :: Value.ref (a 40) :: Value.int (q 41) :: Value.ref (a 42) :: Value.int (q 43) :: Value.int (q 44) :: []))), ((a 8), .inl (T 0, 24, .inl f8)), ((a 9), .inl (T 0, 24, .inl f9)), ((a 10), .inl (T 0, 24, .inl f10)), ((a 11), .inl (T 0, 24, .inl f11)), ((a 17), .inl (T 0, 24, .inl f17)), ((a 18), .inl (T 0, 24, .inl f18)), ((a 19), .inl (T 0, 24, .inl f19)), ((a 20), .inl (T 1, 672, .inr (.inl f20))), ((a 21), .inl (T 1, 672, .inr (.inl f21))), ((a 22), .inl (T 4, 672, .inl f22))] s.heap.size = A at hD ⊢
  have hA : ∀ q : Nat, s.heap.size ≤ q → A q := fun q h => by rw [← hAe]; exact Or.inr h
  have hS : va_S A s.heap s.heap [] := va_S.rf
  have hP : va_P D vwCl [(h0, .inr (10, (Value.int (q 0) :: Value.int (q 1) :: Value.int (q 2) :: Value.int (q 3) :: Value.int (q 4) :: Value.int (q 5) :: Value.int (q 6) :: Value.int (q 7) :: Value.ref (a 8) :: Value.ref (a 9) :: Value.ref (a 10) :: Value.ref (a 11) :: Value.ref (a 12) :: Value.ref (a 13) :: Value.int (q 14) :: Value.long v :: Value.long w :: Value.ref (a 17) :: Value.ref (a 18) :: Value.ref (a 19) :: Value.ref (a 20) :: Value.ref (a 21) :: Value.ref (a 22) :: Value.ref (a 23) :: Value.int (q 24) :: Value.ref (a 25) :: Value.int (q 26) :: Value.ref (a 27) :: Value.int (q 28) :: Value.int (q 29) :: Value.int (q 30) :: Value.int (q 31) :: Value.int (q 32) :: Value.int (q 33) :: Value.ref (a 34) :: Value.ref (a 35) :: Value.ref (a 36) :: Value.ref (a 37) :: Value.ref (a 38) :: Value.ref (a 39) :: Value.ref (a 40) :: Value.int (q 41) :: Value.ref (a 42) :: Value.int (q 43) :: Value.int (q 44) :: []))), ((a 8), .inl (T 0, 24, .inl f8)), ((a 9), .inl (T 0, 24, .inl f9)), ((a 10), .inl (T 0, 24, .inl f10)), ((a 11), .inl (T 0, 24, .inl f11)), ((a 17), .inl (T 0, 24, .inl f17)), ((a 18), .inl (T 0, 24, .inl f18)), ((a 19), .inl (T 0, 24, .inl f19)), ((a 20), .inl (T 1, 672, .inr (.inl f20))), ((a 21), .inl (T 1, 672, .inr (.inl f21))), ((a 22), .inl (T 4, 672, .inl f22))] s.heap := hP
  have hl := lv_entry ([.ref h0, .int x1, .int x2]) (n := 6) (Nat.le_of_ble_eq_true rfl)
  rw [lg_entry_eq]
  generalize (lg_sl ([.ref h0, .int x1, .int x2]) ++ List.replicate (6 - (lg_sl ([.ref h0, .int x1, .int x2])).length) Slot.unset).toArray = ls at hl ⊢
  have hl : lv_has ls 6 [(0, .ref h0), (1, .int x1), (2, .int x2)] := hl
  clear hD0
  refine lv_aload_n hx hb dX13_alike_0 rfl (lv_at hl 0 rfl) ?_
  refine lv_iload_n hx hb dX13_alike_1 rfl (lv_at hl 1 rfl) ?_
  refine vp_callSi (W.runV (As := [.int x1]) (rest := []) ⟨hx, hb, hml, hown, hts⟩ (c_X13_isClause l D T h0 [.int (q 0), .int (q 1), .int (q 2), .int (q 3), .int (q 4), .int (q 5), .int (q 6), .int (q 7), .ref (a 8), .ref (a 9), .ref (a 10), .ref (a 11), .ref (a 12), .ref (a 13), .int (q 14), .long v, .long w, .ref (a 17), .ref (a 18), .ref (a 19), .ref (a 20), .ref (a 21), .ref (a 22), .ref (a 23), .int (q 24), .ref (a 25), .int (q 26), .ref (a 27), .int (q 28), .int (q 29), .int (q 30), .int (q 31), .int (q 32), .int (q 33), .ref (a 34), .ref (a 35), .ref (a 36), .ref (a 37), .ref (a 38), .ref (a 39), .ref (a 40), .int (q 41), .ref (a 42), .int (q 43), .int (q 44)] x1 (q 7) rfl (by omega)) (cwV 1 hts gX13_alike_X13_isClause rfl rfl rfl hv_X13_isClause ⟨Nat.le_of_ble_eq_true rfl, Nat.le_of_ble_eq_true rfl⟩) (pR_V (q := (RX13, TX13, 45)) (ci := 10) (q0 := 0) hP hE rfl rfl [0] rfl) rfl rfl hl.1 rfl (lv_room (Nat.le_of_ble_eq_true rfl)) dX13_alike_2 ⟨Nat.le_of_ble_eq_true rfl, Nat.le_of_ble_eq_true rfl⟩) (fun r_1 hr_1 => ?_)
  rcases bool_post hr_1 with ⟨c_2, rfl⟩ | ⟨c_2, rfl⟩
  · refine lv_if_eq (tgt := 16) hx hb dX13_alike_5 (by decide +kernel) (fun c9 => absurd c9 (by decide +kernel)) (fun _ => ?_)
    refine lv_aload_n hx hb dX13_alike_8 rfl (lv_at hl 0 rfl) ?_
    refine lv_iload_n hx hb dX13_alike_9 rfl (lv_at hl 2 rfl) ?_
    refine vp_callSi (W.runV (As := [.int x2]) (rest := []) ⟨hx, hb, hml, hown, hts⟩ (c_X13_isClause l D T h0 [.int (q 0), .int (q 1), .int (q 2), .int (q 3), .int (q 4), .int (q 5), .int (q 6), .int (q 7), .ref (a 8), .ref (a 9), .ref (a 10), .ref (a 11), .ref (a 12), .ref (a 13), .int (q 14), .long v, .long w, .ref (a 17), .ref (a 18), .ref (a 19), .ref (a 20), .ref (a 21), .ref (a 22), .ref (a 23), .int (q 24), .ref (a 25), .int (q 26), .ref (a 27), .int (q 28), .int (q 29), .int (q 30), .int (q 31), .int (q 32), .int (q 33), .ref (a 34), .ref (a 35), .ref (a 36), .ref (a 37), .ref (a 38), .ref (a 39), .ref (a 40), .int (q 41), .ref (a 42), .int (q 43), .int (q 44)] x2 (q 7) rfl (by omega)) (cwV 1 hts gX13_alike_X13_isClause rfl rfl rfl hv_X13_isClause ⟨Nat.le_of_ble_eq_true rfl, Nat.le_of_ble_eq_true rfl⟩) (pR_V (q := (RX13, TX13, 45)) (ci := 10) (q0 := 0) hP hE rfl rfl [0] rfl) rfl rfl hl.1 rfl (lv_room (Nat.le_of_ble_eq_true rfl)) dX13_alike_10 ⟨Nat.le_of_ble_eq_true rfl, Nat.le_of_ble_eq_true rfl⟩) (fun r_3 hr_3 => ?_)
    rcases bool_post hr_3 with ⟨c_4, rfl⟩ | ⟨c_4, rfl⟩
    · refine lv_if_ne (tgt := 19) hx hb dX13_alike_13 (by decide +kernel) (fun _ => ?_) (fun c9 => absurd c9 (by decide +kernel))
      refine lv_aload_n hx hb dX13_alike_19 rfl (lv_at hl 0 rfl) ?_
      refine lv_iload_n hx hb dX13_alike_20 rfl (lv_at hl 1 rfl) ?_
      refine lv_iload_n hx hb dX13_alike_21 rfl (lv_at hl 2 rfl) ?_
      refine lv_icmp_le (tgt := 29) hx hb dX13_alike_22 (by decide +kernel) (fun c_5 => ?_) (fun c_5 => ?_)
      · rw [fa_le] at c_5
        refine lv_iload_n hx hb dX13_alike_29 rfl (lv_at hl 2 rfl) ?_
        have hFc := va_free (wc := [(h0, .inr (10, (Value.int (q 0) :: Value.int (q 1) :: Value.int (q 2) :: Value.int (q 3) :: Value.int (q 4) :: Value.int (q 5) :: Value.int (q 6) :: Value.int (q 7) :: Value.ref (a 8) :: Value.ref (a 9) :: Value.ref (a 10) :: Value.ref (a 11) :: Value.ref (a 12) :: Value.ref (a 13) :: Value.int (q 14) :: Value.long v :: Value.long w :: Value.ref (a 17) :: Value.ref (a 18) :: Value.ref (a 19) :: Value.ref (a 20) :: Value.ref (a 21) :: Value.ref (a 22) :: Value.ref (a 23) :: Value.int (q 24) :: Value.ref (a 25) :: Value.int (q 26) :: Value.ref (a 27) :: Value.int (q 28) :: Value.int (q 29) :: Value.int (q 30) :: Value.int (q 31) :: Value.int (q 32) :: Value.int (q 33) :: Value.ref (a 34) :: Value.ref (a 35) :: Value.ref (a 36) :: Value.ref (a 37) :: Value.ref (a 38) :: Value.ref (a 39) :: Value.ref (a 40) :: Value.int (q 41) :: Value.ref (a 42) :: Value.int (q 43) :: Value.int (q 44) :: []))), ((a 8), .inl (T 0, 24, .inl f8)), ((a 9), .inl (T 0, 24, .inl f9)), ((a 10), .inl (T 0, 24, .inl f10)), ((a 11), .inl (T 0, 24, .inl f11)), ((a 17), .inl (T 0, 24, .inl f17)), ((a 18), .inl (T 0, 24, .inl f18)), ((a 19), .inl (T 0, 24, .inl f19)), ((a 20), .inl (T 1, 672, .inr (.inl f20))), ((a 21), .inl (T 1, 672, .inr (.inl f21))), ((a 22), .inl (T 4, 672, .inl f22))]) hD hS hA [0, 1, 2, 3, 4, 5, 6, 7, 8, 9, 10] rfl
        refine va_callv (va_runV (As := [.int x2]) (rest := []) ⟨hx, hb, hml, hown, hts⟩ (c_X13_laysWorths l D T _ h0 q v w a f8 f9 f10 f11 f17 f18 f19 f20 f21 f22 x2 (show 0 ≤ (q 7).toInt ∧ (q 7).toInt ≤ 24 from (by omega)) (show okR f8 f10 f11 from hokR) (show ∀ j : Nat, isB (f22 j) from hZ) (show (1 ≤ (q 4).toInt ∧ (q 4).toInt ≤ 9) ∧ 1 ≤ (q 6).toInt ∧ (q 6).toInt ≤ 9 from (by omega)) (show -1 ≤ x2.toInt ∧ x2.toInt < (q 7).toInt from (by omega))) (cwV 1 hts gX13_alike_X13_laysWorths rfl rfl rfl hv_X13_laysWorths ⟨Nat.le_of_ble_eq_true rfl, Nat.le_of_ble_eq_true rfl⟩) (pW_V (q := (RX13, TX13, 45)) (ci := 10) (q0 := 0) hP hE hD rfl rfl [0, 1, 2, 3, 4, 5, 6, 7, 8, 9, 10] (by decide +kernel) rfl rfl) rfl rfl hl.1 rfl (lv_room (Nat.le_of_ble_eq_true rfl)) dX13_alike_30 ⟨Nat.le_of_ble_eq_true rfl, Nat.le_of_ble_eq_true rfl⟩) hS (fun q _ h => hFc q h) hFc (fun u_7 t H1 locs ht hvm hr_6 hB hz1 hk1 hS => ?_)
        obtain ⟨l_8, l_9, f_10, f_11, f_12, f_13, f_14, f_15⟩ := u_7
        obtain ⟨hi0_r_6, hi1_r_6, hi2_r_6, hi3_r_6, hi4_r_6⟩ := hr_6
        have hZ : ∀ j : Nat, isB (f_15 j) := hi0_r_6
        have hEE : okE f8 f10 f_10 (q 7).toInt := hi1_r_6
        have hW1 : ∀ j : Nat, (j : Int) < 28 * (x2.toInt + 1) → 1 ≤ (f_14 j).toInt := hi2_r_6
        have hTV : ∀ y t s : Int32, spK t s → 0 ≤ y.toInt → y.toInt ≤ x2.toInt → tabW f_13 f_14 f_15 y t s = VALW (lqW (q 0) (q 1) (q 2) (q 3) (q 4) (q 5) (q 6)) f8 f9 f10 f11 f_10 y t s := hi3_r_6
        have hMEr : ∀ j : Nat, (j : Int) < (q 7).toInt → mesP f8 f9 f10 f11 f_10 f_11 f_12 j := hi4_r_6
        obtain ⟨hP1, hD1⟩ := hB
        rw [ht] at hP1
        obtain ⟨hP, hD⟩ := va_repl [(h0, .inr (10, (Value.int (q 0) :: Value.int (q 1) :: Value.int (q 2) :: Value.int (q 3) :: Value.int (q 4) :: Value.int (q 5) :: Value.int (q 6) :: Value.int (q 7) :: Value.ref (a 8) :: Value.ref (a 9) :: Value.ref (a 10) :: Value.ref (a 11) :: Value.ref (a 12) :: Value.ref (a 13) :: Value.int 0 :: Value.long l_8 :: Value.long l_9 :: Value.ref (a 17) :: Value.ref (a 18) :: Value.ref (a 19) :: Value.ref (a 20) :: Value.ref (a 21) :: Value.ref (a 22) :: Value.ref (a 23) :: Value.int (q 24) :: Value.ref (a 25) :: Value.int (q 26) :: Value.ref (a 27) :: Value.int (q 28) :: Value.int (q 29) :: Value.int (q 30) :: Value.int (q 31) :: Value.int (q 32) :: Value.int (q 33) :: Value.ref (a 34) :: Value.ref (a 35) :: Value.ref (a 36) :: Value.ref (a 37) :: Value.ref (a 38) :: Value.ref (a 39) :: Value.ref (a 40) :: Value.int (q 41) :: Value.ref (a 42) :: Value.int (q 43) :: Value.int (q 44) :: []))), ((a 8), .inl (T 0, 24, .inl f8)), ((a 9), .inl (T 0, 24, .inl f9)), ((a 10), .inl (T 0, 24, .inl f10)), ((a 11), .inl (T 0, 24, .inl f11)), ((a 17), .inl (T 0, 24, .inl f_10)), ((a 18), .inl (T 0, 24, .inl f_11)), ((a 19), .inl (T 0, 24, .inl f_12)), ((a 20), .inl (T 1, 672, .inr (.inl f_13))), ((a 21), .inl (T 1, 672, .inr (.inl f_14))), ((a 22), .inl (T 4, 672, .inl f_15))] hP hD [0, 1, 2, 3, 4, 5, 6, 7, 8, 9, 10] [0, 1, 2, 3, 4, 5, 6, 7, 8, 9, 10] rfl (by decide +kernel) rfl rfl rfl hk1 hP1
        clear hP1 hD1 hFc
        generalize H1 = H at hP hS ⊢
        refine lv_aload_n hx hb dX13_alike_33 rfl (lv_at hl 0 rfl) ?_
        refine va_get (D := D) (ci := 10) (v := .ref (a 17)) (C := RX13) (T := TX13) (N := 45) hx hb hts in_X13_alike_X13 hown hE.1 hP 0 rfl rfl 17 (by decide +kernel) (hts (.fieldLink RX13 47 "ClauseBookModel" "end" "[I") (List.mem_of_getElem? (i := 1) rfl)) (fun _ h9 => h9) rfl dX13_alike_34 ?_
        refine lv_iload_n hx hb dX13_alike_37 rfl (lv_at hl 1 rfl) ?_
        refine va_iald hx hb hE.1 hP 5 0 rfl rfl (by rw [vp_in_iff]; first | omega | (rw [fb_addI (by omega) (by omega)]; omega)) dX13_alike_38 ?_
        refine lv_topi (fun z_16 ez_16 => ?_)
        refine lv_aload_n hx hb dX13_alike_39 rfl (lv_at hl 0 rfl) ?_
        refine va_get (D := D) (ci := 10) (v := .ref (a 17)) (C := RX13) (T := TX13) (N := 45) hx hb hts in_X13_alike_X13 hown hE.1 hP 0 rfl rfl 17 (by decide +kernel) (hts (.fieldLink RX13 47 "ClauseBookModel" "end" "[I") (List.mem_of_getElem? (i := 1) rfl)) (fun _ h9 => h9) rfl dX13_alike_40 ?_
        refine lv_iload_n hx hb dX13_alike_43 rfl (lv_at hl 2 rfl) ?_
        refine va_iald hx hb hE.1 hP 5 0 rfl rfl (by rw [vp_in_iff]; first | omega | (rw [fb_addI (by omega) (by omega)]; omega)) dX13_alike_44 ?_
        refine lv_topi (fun z_17 ez_17 => ?_)
        have hzz_16 : z_16.toInt = (f_10 (x1.toNatClampNeg)).toInt := by rw [ez_16]
        have hzz_17 : z_17.toInt = (f_10 (x2.toNatClampNeg)).toInt := by rw [ez_17]
        refine lv_icmp_ne (tgt := 52) hx hb dX13_alike_45 (by decide +kernel) (fun c_18 => ?_) (fun c_18 => ?_)
        · rw [fa_eq] at c_18
          refine lv_iconst (v := 0) hx hb dX13_alike_52 (by decide +kernel) ?_
          refine lv_istore_n (lv' := [(3, .int 0), (0, .ref h0), (1, .int x1), (2, .int x2)]) hx hb dX13_alike_53 rfl hl (by decide +kernel) rfl (fun ls hl => ?_)
          refine lv_iconst (v := 0) hx hb dX13_alike_54 (by decide +kernel) ?_
          refine lv_istore (lv' := [(4, .int 0), (3, .int 0), (0, .ref h0), (1, .int x1), (2, .int x2)]) hx hb dX13_alike_55 hl (by decide +kernel) rfl (fun ls hl => ?_)
          refine lv_iconst (v := 0) hx hb dX13_alike_57 (by decide +kernel) ?_
          refine lv_istore (lv' := [(5, .int 0), (4, .int 0), (3, .int 0), (0, .ref h0), (1, .int x1), (2, .int x2)]) hx hb dX13_alike_58 hl (by decide +kernel) rfl (fun ls hl => ?_)
          refine loopR (σ := (Int32) × (Int32) × (Int32)) (fun x9 ls => lv_has ls 6 [(5, .int x9.1), (4, .int x9.2.1), (3, .int x9.2.2), (0, .ref h0), (1, .int x1), (2, .int x2)] ∧ ((0 ≤ x9.1.toInt ∧ x9.1.toInt ≤ 28) ∧ isB x9.2.1 ∧ isB x9.2.2 ∧ akI f_13 f_14 f_15 ((f_10 (x1.toNatClampNeg)).toInt = (f_10 (x2.toNatClampNeg)).toInt) (28 * x1.toNatClampNeg) (28 * x2.toNatClampNeg) x9.1.toNatClampNeg x9.2.1 x9.2.2)) (fun x9 => (28 - x9.1.toInt).toNat) (fun x9 ls hI ih => ?_) (0, 0, 0) ls ⟨lv_sub hl [0, 1, 2, 3, 4, 5] rfl, ⟨⟨(by (try dsimp only); decide), (by (try dsimp only); decide)⟩, isB0, isB0, (by (try dsimp only); exact akI_0n (by omega))⟩⟩
          obtain ⟨kk, ov, is⟩ := x9
          obtain ⟨hl, hinv⟩ := hI
          have hl : lv_has ls 6 [(5, .int kk), (4, .int ov), (3, .int is), (0, .ref h0), (1, .int x1), (2, .int x2)] := hl
          have hinv : (0 ≤ kk.toInt ∧ kk.toInt ≤ 28) ∧ isB ov ∧ isB is ∧ akI f_13 f_14 f_15 ((f_10 (x1.toNatClampNeg)).toInt = (f_10 (x2.toNatClampNeg)).toInt) (28 * x1.toNatClampNeg) (28 * x2.toNatClampNeg) kk.toNatClampNeg ov is := hinv
          obtain ⟨hkk, hBo, hBi, hak⟩ := hinv
          have h28x1 : (28 * x1).toInt = 28 * x1.toInt := by rw [fb_mulI (by rw [ti_28]; omega) (by rw [ti_28]; omega), ti_28]
          have h28x2 : (28 * x2).toInt = 28 * x2.toInt := by rw [fb_mulI (by rw [ti_28]; omega) (by rw [ti_28]; omega), ti_28]
          refine lv_iload hx hb dX13_alike_60 (lv_at hl 0 rfl) ?_
          refine lv_bipush (v := 28) hx hb dX13_alike_62 (by decide +kernel) ?_
          refine lv_icmp_ge (tgt := 177) hx hb dX13_alike_64 (by decide +kernel) (fun c_19 => ?_) (fun c_19 => ?_)
          · rw [fa_le] at c_19
            try rw [ti_28] at c_19
            have hk28 : kk.toNatClampNeg = 28 := by have h9 := tn (x := kk) (by omega); omega
            have hak9 : akI f_13 f_14 f_15 ((f_10 (x1.toNatClampNeg)).toInt = (f_10 (x2.toNatClampNeg)).toInt) (28 * x1.toNatClampNeg) (28 * x2.toNatClampNeg) 28 ov is := by rw [hk28] at hak; exact hak
            refine lv_iload hx hb dX13_alike_177 (lv_at hl 1 rfl) ?_
            refine lv_if_eq (tgt := 187) hx hb dX13_alike_179 (by decide +kernel) (fun c_20 => ?_) (fun c_20 => ?_)
            · rw [fa_eq] at c_20
              try rw [ti_0] at c_20
              refine lv_iload_n hx hb dX13_alike_187 rfl (lv_at hl 2 rfl) ?_
              refine lv_if_eq (tgt := 195) hx hb dX13_alike_188 (by decide +kernel) (fun c_21 => ?_) (fun c_21 => ?_)
              · rw [fa_eq] at c_21
                try rw [ti_0] at c_21
                refine lv_iconst (v := 0) hx hb dX13_alike_195 (by decide +kernel) ?_
                exact W.iret hx hb hr (fun t ht hW => ⟨⟨_, (0, l_8, l_9, f_10, f_11, f_12, f_13, f_14, f_15), rfl, ⟨(show isB 0 from isB0), (show ∀ j : Nat, isB (f_15 j) from hZ), (show (0 ≤ x1.toInt ∧ x1.toInt < (q 7).toInt) ∧ 0 ≤ x2.toInt ∧ x2.toInt < (q 7).toInt → ∀ j : Nat, (j : Int) < (q 7).toInt → mesP f8 f9 f10 f11 f_10 f_11 f_12 j from (fun _ => hMEr)), (show alkQ (VALW (lqW (q 0) (q 1) (q 2) (q 3) (q 4) (q 5) (q 6)) f8 f9 f10 f11 f_10) f_10 (q 7) x1 x2 (0 : Int32) from (akI_end (g0 := f_13) (g1 := f_14) (g2 := f_15) (ov := ov) (is := is) ⟨⟨(by omega), (by omega)⟩, (by omega), (by omega)⟩ (fun t s g => ⟨hTV x1 t s g (by omega) (by omega), hTV x2 t s g (by omega) (by omega)⟩) (fun t s g => ⟨(hW1 _ (by have h9 := slN_b (c := x1) (x := (x1 + 1)) (t := t) (k := s) (by have h8 := inc1 (i := x1) (n := 24) (by omega) (by decide +kernel); omega) g; have h8 := inc1 (i := x1) (n := 24) (by omega) (by decide +kernel); omega)), (hW1 _ (by have h9 := slN_b (c := x2) (x := (x2 + 1)) (t := t) (k := s) (by have h8 := inc1 (i := x2) (n := 24) (by omega) (by decide +kernel); omega) g; have h8 := inc1 (i := x2) (n := 24) (by omega) (by decide +kernel); omega))⟩) hak9 (by first | exact Or.inl ⟨by omega, by decide⟩ | exact Or.inr ⟨by omega, Or.inl ⟨by omega, by decide⟩⟩ | exact Or.inr ⟨by omega, Or.inr ⟨by omega, by decide⟩⟩)))⟩, by rw [ht]; exact hP.sub [0, 1, 2, 3, 4, 5, 6, 7, 8, 9, 10] rfl, hD.sub [0, 1, 2, 3, 4, 5, 6, 7, 8, 9, 10] (by decide +kernel) rfl⟩, hS.F ht⟩) hS.2.2 dX13_alike_196
              · rw [fa_eq] at c_21
                try rw [ti_0] at c_21
                refine lv_iconst (v := 1) hx hb dX13_alike_191 (by decide +kernel) ?_
                refine lv_goto (tgt := 196) hx hb dX13_alike_192 (by decide +kernel) ?_
                exact W.iret hx hb hr (fun t ht hW => ⟨⟨_, (0, l_8, l_9, f_10, f_11, f_12, f_13, f_14, f_15), rfl, ⟨(show isB 0 from isB0), (show ∀ j : Nat, isB (f_15 j) from hZ), (show (0 ≤ x1.toInt ∧ x1.toInt < (q 7).toInt) ∧ 0 ≤ x2.toInt ∧ x2.toInt < (q 7).toInt → ∀ j : Nat, (j : Int) < (q 7).toInt → mesP f8 f9 f10 f11 f_10 f_11 f_12 j from (fun _ => hMEr)), (show alkQ (VALW (lqW (q 0) (q 1) (q 2) (q 3) (q 4) (q 5) (q 6)) f8 f9 f10 f11 f_10) f_10 (q 7) x1 x2 (1 : Int32) from (akI_end (g0 := f_13) (g1 := f_14) (g2 := f_15) (ov := ov) (is := is) ⟨⟨(by omega), (by omega)⟩, (by omega), (by omega)⟩ (fun t s g => ⟨hTV x1 t s g (by omega) (by omega), hTV x2 t s g (by omega) (by omega)⟩) (fun t s g => ⟨(hW1 _ (by have h9 := slN_b (c := x1) (x := (x1 + 1)) (t := t) (k := s) (by have h8 := inc1 (i := x1) (n := 24) (by omega) (by decide +kernel); omega) g; have h8 := inc1 (i := x1) (n := 24) (by omega) (by decide +kernel); omega)), (hW1 _ (by have h9 := slN_b (c := x2) (x := (x2 + 1)) (t := t) (k := s) (by have h8 := inc1 (i := x2) (n := 24) (by omega) (by decide +kernel); omega) g; have h8 := inc1 (i := x2) (n := 24) (by omega) (by decide +kernel); omega))⟩) hak9 (by first | exact Or.inl ⟨by omega, by decide⟩ | exact Or.inr ⟨by omega, Or.inl ⟨by omega, by decide⟩⟩ | exact Or.inr ⟨by omega, Or.inr ⟨by omega, by decide⟩⟩)))⟩, by rw [ht]; exact hP.sub [0, 1, 2, 3, 4, 5, 6, 7, 8, 9, 10] rfl, hD.sub [0, 1, 2, 3, 4, 5, 6, 7, 8, 9, 10] (by decide +kernel) rfl⟩, hS.F ht⟩) hS.2.2 dX13_alike_196
            · rw [fa_eq] at c_20
              try rw [ti_0] at c_20
              refine lv_bipush (v := (-5)) hx hb dX13_alike_182 (by decide +kernel) ?_
              refine lv_goto (tgt := 196) hx hb dX13_alike_184 (by decide +kernel) ?_
              exact W.iret hx hb hr (fun t ht hW => ⟨⟨_, (0, l_8, l_9, f_10, f_11, f_12, f_13, f_14, f_15), rfl, ⟨(show isB 0 from isB0), (show ∀ j : Nat, isB (f_15 j) from hZ), (show (0 ≤ x1.toInt ∧ x1.toInt < (q 7).toInt) ∧ 0 ≤ x2.toInt ∧ x2.toInt < (q 7).toInt → ∀ j : Nat, (j : Int) < (q 7).toInt → mesP f8 f9 f10 f11 f_10 f_11 f_12 j from (fun _ => hMEr)), (show alkQ (VALW (lqW (q 0) (q 1) (q 2) (q 3) (q 4) (q 5) (q 6)) f8 f9 f10 f11 f_10) f_10 (q 7) x1 x2 ((-5) : Int32) from (akI_end (g0 := f_13) (g1 := f_14) (g2 := f_15) (ov := ov) (is := is) ⟨⟨(by omega), (by omega)⟩, (by omega), (by omega)⟩ (fun t s g => ⟨hTV x1 t s g (by omega) (by omega), hTV x2 t s g (by omega) (by omega)⟩) (fun t s g => ⟨(hW1 _ (by have h9 := slN_b (c := x1) (x := (x1 + 1)) (t := t) (k := s) (by have h8 := inc1 (i := x1) (n := 24) (by omega) (by decide +kernel); omega) g; have h8 := inc1 (i := x1) (n := 24) (by omega) (by decide +kernel); omega)), (hW1 _ (by have h9 := slN_b (c := x2) (x := (x2 + 1)) (t := t) (k := s) (by have h8 := inc1 (i := x2) (n := 24) (by omega) (by decide +kernel); omega) g; have h8 := inc1 (i := x2) (n := 24) (by omega) (by decide +kernel); omega))⟩) hak9 (by first | exact Or.inl ⟨by omega, by decide⟩ | exact Or.inr ⟨by omega, Or.inl ⟨by omega, by decide⟩⟩ | exact Or.inr ⟨by omega, Or.inr ⟨by omega, by decide⟩⟩)))⟩, by rw [ht]; exact hP.sub [0, 1, 2, 3, 4, 5, 6, 7, 8, 9, 10] rfl, hD.sub [0, 1, 2, 3, 4, 5, 6, 7, 8, 9, 10] (by decide +kernel) rfl⟩, hS.F ht⟩) hS.2.2 dX13_alike_196
          · rw [fa_le] at c_19
            try rw [ti_28] at c_19
            have hix1 : ((28 * x1) + kk).toNatClampNeg = 28 * x1.toNatClampNeg + kk.toNatClampNeg := ak_ix (by omega) (by omega)
            have hix2 : ((28 * x2) + kk).toNatClampNeg = 28 * x2.toNatClampNeg + kk.toNatClampNeg := ak_ix (by omega) (by omega)
            refine lv_iload hx hb dX13_alike_67 (lv_at hl 1 rfl) ?_
            refine lv_aload_n hx hb dX13_alike_69 rfl (lv_at hl 3 rfl) ?_
            refine va_get (D := D) (ci := 10) (v := .ref (a 22)) (C := RX13) (T := TX13) (N := 45) hx hb hts in_X13_alike_X13 hown hE.1 hP 0 rfl rfl 22 (by decide +kernel) (hts (.fieldLink RX13 63 "ClauseBookModel" "worthMuch" "[Z") (List.mem_of_getElem? (i := 2) rfl)) (fun _ h9 => h9) rfl dX13_alike_70 ?_
            refine lv_bipush (v := 28) hx hb dX13_alike_73 (by decide +kernel) ?_
            refine lv_iload_n hx hb dX13_alike_75 rfl (lv_at hl 4 rfl) ?_
            refine lv_imul hx hb dX13_alike_76 ?_
            refine lv_iload hx hb dX13_alike_77 (lv_at hl 0 rfl) ?_
            refine lv_iadd hx hb dX13_alike_79 ?_
            refine va_zald hx hb hE.1 hP 10 4 rfl rfl (by rw [vp_in_iff]; first | omega | (rw [fb_addI (by omega) (by omega)]; omega)) dX13_alike_80 ?_
            refine lv_topi (fun z_22 ez_22 => ?_)
            have hxz_22 : z_22 = f_15 (28 * x1.toNatClampNeg + kk.toNatClampNeg) := by rw [ez_22, hix1]
            refine lv_if_ne (tgt := 99) hx hb dX13_alike_81 (by decide +kernel) (fun c_23 => ?_) (fun c_23 => ?_)
            · rw [fa_eq] at c_23
              try rw [ti_0] at c_23
              refine lv_iconst (v := 1) hx hb dX13_alike_99 (by decide +kernel) ?_
              refine lv_goto (tgt := 104) hx hb dX13_alike_100 (by decide +kernel) ?_
              refine lv_ior hx hb dX13_alike_104 ?_
              refine lv_topi (fun z_24 ez_24 => ?_)
              have hBz_24 : isB z_24 := by rw [ez_24]; exact isB.or hBo isB1
              have hoz_24 : z_24.toInt = 0 ↔ (ov.toInt = 0 ∧ (1 : Int32).toInt = 0) := by rw [ez_24]; exact or_iff hBo isB1
              refine lv_istore (lv' := [(4, .int z_24), (5, .int kk), (3, .int is), (0, .ref h0), (1, .int x1), (2, .int x2)]) hx hb dX13_alike_105 hl (by decide +kernel) rfl (fun ls hl => ?_)
              refine lv_iload_n hx hb dX13_alike_107 rfl (lv_at hl 2 rfl) ?_
              refine lv_aload_n hx hb dX13_alike_108 rfl (lv_at hl 3 rfl) ?_
              refine va_get (D := D) (ci := 10) (v := .ref (a 20)) (C := RX13) (T := TX13) (N := 45) hx hb hts in_X13_alike_X13 hown hE.1 hP 0 rfl rfl 20 (by decide +kernel) (hts (.fieldLink RX13 56 "ClauseBookModel" "worthAbove" "[J") (List.mem_of_getElem? (i := 3) rfl)) (fun _ h9 => h9) rfl dX13_alike_109 ?_
              refine lv_bipush (v := 28) hx hb dX13_alike_112 (by decide +kernel) ?_
              refine lv_iload_n hx hb dX13_alike_114 rfl (lv_at hl 4 rfl) ?_
              refine lv_imul hx hb dX13_alike_115 ?_
              refine lv_iload hx hb dX13_alike_116 (lv_at hl 1 rfl) ?_
              refine lv_iadd hx hb dX13_alike_118 ?_
              refine va_lald hx hb hE.1 hP 8 1 rfl rfl (by rw [vp_in_iff]; first | omega | (rw [fb_addI (by omega) (by omega)]; omega)) dX13_alike_119 ?_
              refine lv_topl (fun z_25 ez_25 => ?_)
              have hxz_25 : z_25 = f_13 (28 * x1.toNatClampNeg + kk.toNatClampNeg) := by rw [ez_25, hix1]
              refine lv_aload_n hx hb dX13_alike_120 rfl (lv_at hl 3 rfl) ?_
              refine va_get (D := D) (ci := 10) (v := .ref (a 20)) (C := RX13) (T := TX13) (N := 45) hx hb hts in_X13_alike_X13 hown hE.1 hP 0 rfl rfl 20 (by decide +kernel) (hts (.fieldLink RX13 56 "ClauseBookModel" "worthAbove" "[J") (List.mem_of_getElem? (i := 3) rfl)) (fun _ h9 => h9) rfl dX13_alike_121 ?_
              refine lv_bipush (v := 28) hx hb dX13_alike_124 (by decide +kernel) ?_
              refine lv_iload_n hx hb dX13_alike_126 rfl (lv_at hl 5 rfl) ?_
              refine lv_imul hx hb dX13_alike_127 ?_
              refine lv_iload hx hb dX13_alike_128 (lv_at hl 1 rfl) ?_
              refine lv_iadd hx hb dX13_alike_130 ?_
              refine va_lald hx hb hE.1 hP 8 1 rfl rfl (by rw [vp_in_iff]; first | omega | (rw [fb_addI (by omega) (by omega)]; omega)) dX13_alike_131 ?_
              refine lv_topl (fun z_26 ez_26 => ?_)
              have hxz_26 : z_26 = f_13 (28 * x2.toNatClampNeg + kk.toNatClampNeg) := by rw [ez_26, hix2]
              refine W.lcmp hx hb dX13_alike_132 ?_
              refine lv_if_ne (tgt := 168) hx hb dX13_alike_133 (by decide +kernel) (fun c_27 => ?_) (fun c_27 => ?_)
              · rw [lcmp_eq] at c_27
                refine lv_iconst (v := 0) hx hb dX13_alike_168 (by decide +kernel) ?_
                refine lv_iand hx hb dX13_alike_169 ?_
                refine lv_topi (fun z_28 ez_28 => ?_)
                have hBz_28 : isB z_28 := by rw [ez_28]; rw [isBand0 hBi]; exact isB0
                refine lv_istore_n (lv' := [(3, .int z_28), (4, .int z_24), (5, .int kk), (0, .ref h0), (1, .int x1), (2, .int x2)]) hx hb dX13_alike_170 rfl hl (by decide +kernel) rfl (fun ls hl => ?_)
                obtain ⟨z_29, ez_29⟩ : ∃ y : Int32, y = kk + 1 := ⟨_, rfl⟩
                refine lv_iinc (v := z_29) (lv' := [(5, .int z_29), (3, .int z_28), (4, .int z_24), (0, .ref h0), (1, .int x1), (2, .int x2)]) hx hb dX13_alike_171 hl (k := 2) rfl (by rw [ez_29]; rfl) (by decide +kernel) rfl (fun ls hl => ?_)
                refine lv_goto (tgt := 60) hx hb dX13_alike_174 (by decide +kernel) ?_
                have hi9 : z_29.toInt = kk.toInt + 1 := by rw [ez_29]; exact inc1 (i := kk) (n := 1000) (by omega) (by decide +kernel)
                exact ih (z_29, z_24, z_28) ls ⟨lv_sub hl [0, 2, 1, 3, 4, 5] rfl, ⟨⟨(by (try dsimp only); omega), (by (try dsimp only); omega)⟩, hBz_24, hBz_28, (by (try dsimp only); rw [tnS (by omega) hi9]; exact akI_step hak (Or.inr ⟨(fun h8 => by have h7 := (hoz_24.1 h8).2; rw [ti_1] at h7; omega), Or.inr (Or.inl (by rw [← hxz_22]; omega))⟩) (Or.inr ⟨(by rw [ez_28, isBand0 hBi]; decide), (fun h9 => by have h8 := h9.1; rw [← hxz_25, ← hxz_26] at h8; have h7 := congrArg Int64.toInt h8; omega)⟩))⟩⟩ (by (try dsimp only); omega)
              · rw [lcmp_eq] at c_27
                refine lv_aload_n hx hb dX13_alike_136 rfl (lv_at hl 3 rfl) ?_
                refine va_get (D := D) (ci := 10) (v := .ref (a 21)) (C := RX13) (T := TX13) (N := 45) hx hb hts in_X13_alike_X13 hown hE.1 hP 0 rfl rfl 21 (by decide +kernel) (hts (.fieldLink RX13 60 "ClauseBookModel" "worthBelow" "[J") (List.mem_of_getElem? (i := 4) rfl)) (fun _ h9 => h9) rfl dX13_alike_137 ?_
                refine lv_bipush (v := 28) hx hb dX13_alike_140 (by decide +kernel) ?_
                refine lv_iload_n hx hb dX13_alike_142 rfl (lv_at hl 4 rfl) ?_
                refine lv_imul hx hb dX13_alike_143 ?_
                refine lv_iload hx hb dX13_alike_144 (lv_at hl 1 rfl) ?_
                refine lv_iadd hx hb dX13_alike_146 ?_
                refine va_lald hx hb hE.1 hP 9 1 rfl rfl (by rw [vp_in_iff]; first | omega | (rw [fb_addI (by omega) (by omega)]; omega)) dX13_alike_147 ?_
                refine lv_topl (fun z_30 ez_30 => ?_)
                have hxz_30 : z_30 = f_14 (28 * x1.toNatClampNeg + kk.toNatClampNeg) := by rw [ez_30, hix1]
                refine lv_aload_n hx hb dX13_alike_148 rfl (lv_at hl 3 rfl) ?_
                refine va_get (D := D) (ci := 10) (v := .ref (a 21)) (C := RX13) (T := TX13) (N := 45) hx hb hts in_X13_alike_X13 hown hE.1 hP 0 rfl rfl 21 (by decide +kernel) (hts (.fieldLink RX13 60 "ClauseBookModel" "worthBelow" "[J") (List.mem_of_getElem? (i := 4) rfl)) (fun _ h9 => h9) rfl dX13_alike_149 ?_
                refine lv_bipush (v := 28) hx hb dX13_alike_152 (by decide +kernel) ?_
                refine lv_iload_n hx hb dX13_alike_154 rfl (lv_at hl 5 rfl) ?_
                refine lv_imul hx hb dX13_alike_155 ?_
                refine lv_iload hx hb dX13_alike_156 (lv_at hl 1 rfl) ?_
                refine lv_iadd hx hb dX13_alike_158 ?_
                refine va_lald hx hb hE.1 hP 9 1 rfl rfl (by rw [vp_in_iff]; first | omega | (rw [fb_addI (by omega) (by omega)]; omega)) dX13_alike_159 ?_
                refine lv_topl (fun z_31 ez_31 => ?_)
                have hxz_31 : z_31 = f_14 (28 * x2.toNatClampNeg + kk.toNatClampNeg) := by rw [ez_31, hix2]
                refine W.lcmp hx hb dX13_alike_160 ?_
                refine lv_if_ne (tgt := 168) hx hb dX13_alike_161 (by decide +kernel) (fun c_32 => ?_) (fun c_32 => ?_)
                · rw [lcmp_eq] at c_32
                  refine lv_iconst (v := 0) hx hb dX13_alike_168 (by decide +kernel) ?_
                  refine lv_iand hx hb dX13_alike_169 ?_
                  refine lv_topi (fun z_33 ez_33 => ?_)
                  have hBz_33 : isB z_33 := by rw [ez_33]; rw [isBand0 hBi]; exact isB0
                  refine lv_istore_n (lv' := [(3, .int z_33), (4, .int z_24), (5, .int kk), (0, .ref h0), (1, .int x1), (2, .int x2)]) hx hb dX13_alike_170 rfl hl (by decide +kernel) rfl (fun ls hl => ?_)
                  obtain ⟨z_34, ez_34⟩ : ∃ y : Int32, y = kk + 1 := ⟨_, rfl⟩
                  refine lv_iinc (v := z_34) (lv' := [(5, .int z_34), (3, .int z_33), (4, .int z_24), (0, .ref h0), (1, .int x1), (2, .int x2)]) hx hb dX13_alike_171 hl (k := 2) rfl (by rw [ez_34]; rfl) (by decide +kernel) rfl (fun ls hl => ?_)
                  refine lv_goto (tgt := 60) hx hb dX13_alike_174 (by decide +kernel) ?_
                  have hi9 : z_34.toInt = kk.toInt + 1 := by rw [ez_34]; exact inc1 (i := kk) (n := 1000) (by omega) (by decide +kernel)
                  exact ih (z_34, z_24, z_33) ls ⟨lv_sub hl [0, 2, 1, 3, 4, 5] rfl, ⟨⟨(by (try dsimp only); omega), (by (try dsimp only); omega)⟩, hBz_24, hBz_33, (by (try dsimp only); rw [tnS (by omega) hi9]; exact akI_step hak (Or.inr ⟨(fun h8 => by have h7 := (hoz_24.1 h8).2; rw [ti_1] at h7; omega), Or.inr (Or.inl (by rw [← hxz_22]; omega))⟩) (Or.inr ⟨(by rw [ez_33, isBand0 hBi]; decide), (fun h9 => by have h8 := h9.2; rw [← hxz_30, ← hxz_31] at h8; have h7 := congrArg Int64.toInt h8; omega)⟩))⟩⟩ (by (try dsimp only); omega)
                · rw [lcmp_eq] at c_32
                  refine lv_iconst (v := 1) hx hb dX13_alike_164 (by decide +kernel) ?_
                  refine lv_goto (tgt := 169) hx hb dX13_alike_165 (by decide +kernel) ?_
                  refine lv_iand hx hb dX13_alike_169 ?_
                  refine lv_topi (fun z_35 ez_35 => ?_)
                  have hBz_35 : isB z_35 := by rw [ez_35]; rw [isBand1 hBi]; exact hBi
                  refine lv_istore_n (lv' := [(3, .int z_35), (4, .int z_24), (5, .int kk), (0, .ref h0), (1, .int x1), (2, .int x2)]) hx hb dX13_alike_170 rfl hl (by decide +kernel) rfl (fun ls hl => ?_)
                  obtain ⟨z_36, ez_36⟩ : ∃ y : Int32, y = kk + 1 := ⟨_, rfl⟩
                  refine lv_iinc (v := z_36) (lv' := [(5, .int z_36), (3, .int z_35), (4, .int z_24), (0, .ref h0), (1, .int x1), (2, .int x2)]) hx hb dX13_alike_171 hl (k := 2) rfl (by rw [ez_36]; rfl) (by decide +kernel) rfl (fun ls hl => ?_)
                  refine lv_goto (tgt := 60) hx hb dX13_alike_174 (by decide +kernel) ?_
                  have hi9 : z_36.toInt = kk.toInt + 1 := by rw [ez_36]; exact inc1 (i := kk) (n := 1000) (by omega) (by decide +kernel)
                  exact ih (z_36, z_24, z_35) ls ⟨lv_sub hl [0, 2, 1, 3, 4, 5] rfl, ⟨⟨(by (try dsimp only); omega), (by (try dsimp only); omega)⟩, hBz_24, hBz_35, (by (try dsimp only); rw [tnS (by omega) hi9]; exact akI_step hak (Or.inr ⟨(fun h8 => by have h7 := (hoz_24.1 h8).2; rw [ti_1] at h7; omega), Or.inr (Or.inl (by rw [← hxz_22]; omega))⟩) (Or.inl ⟨(by rw [ez_35, isBand1 hBi]), (by rw [← hxz_25, ← hxz_26]; exact Int64.toInt_inj.1 (by omega)), (by rw [← hxz_30, ← hxz_31]; exact Int64.toInt_inj.1 (by omega))⟩))⟩⟩ (by (try dsimp only); omega)
            · rw [fa_eq] at c_23
              try rw [ti_0] at c_23
              refine lv_aload_n hx hb dX13_alike_84 rfl (lv_at hl 3 rfl) ?_
              refine va_get (D := D) (ci := 10) (v := .ref (a 22)) (C := RX13) (T := TX13) (N := 45) hx hb hts in_X13_alike_X13 hown hE.1 hP 0 rfl rfl 22 (by decide +kernel) (hts (.fieldLink RX13 63 "ClauseBookModel" "worthMuch" "[Z") (List.mem_of_getElem? (i := 2) rfl)) (fun _ h9 => h9) rfl dX13_alike_85 ?_
              refine lv_bipush (v := 28) hx hb dX13_alike_88 (by decide +kernel) ?_
              refine lv_iload_n hx hb dX13_alike_90 rfl (lv_at hl 5 rfl) ?_
              refine lv_imul hx hb dX13_alike_91 ?_
              refine lv_iload hx hb dX13_alike_92 (lv_at hl 0 rfl) ?_
              refine lv_iadd hx hb dX13_alike_94 ?_
              refine va_zald hx hb hE.1 hP 10 4 rfl rfl (by rw [vp_in_iff]; first | omega | (rw [fb_addI (by omega) (by omega)]; omega)) dX13_alike_95 ?_
              refine lv_topi (fun z_37 ez_37 => ?_)
              have hxz_37 : z_37 = f_15 (28 * x2.toNatClampNeg + kk.toNatClampNeg) := by rw [ez_37, hix2]
              refine lv_if_eq (tgt := 103) hx hb dX13_alike_96 (by decide +kernel) (fun c_38 => ?_) (fun c_38 => ?_)
              · rw [fa_eq] at c_38
                try rw [ti_0] at c_38
                refine lv_iconst (v := 0) hx hb dX13_alike_103 (by decide +kernel) ?_
                refine lv_ior hx hb dX13_alike_104 ?_
                refine lv_topi (fun z_39 ez_39 => ?_)
                have hBz_39 : isB z_39 := by rw [ez_39]; exact isB.or hBo isB0
                have hoz_39 : z_39.toInt = 0 ↔ (ov.toInt = 0 ∧ (0 : Int32).toInt = 0) := by rw [ez_39]; exact or_iff hBo isB0
                refine lv_istore (lv' := [(4, .int z_39), (5, .int kk), (3, .int is), (0, .ref h0), (1, .int x1), (2, .int x2)]) hx hb dX13_alike_105 hl (by decide +kernel) rfl (fun ls hl => ?_)
                refine lv_iload_n hx hb dX13_alike_107 rfl (lv_at hl 2 rfl) ?_
                refine lv_aload_n hx hb dX13_alike_108 rfl (lv_at hl 3 rfl) ?_
                refine va_get (D := D) (ci := 10) (v := .ref (a 20)) (C := RX13) (T := TX13) (N := 45) hx hb hts in_X13_alike_X13 hown hE.1 hP 0 rfl rfl 20 (by decide +kernel) (hts (.fieldLink RX13 56 "ClauseBookModel" "worthAbove" "[J") (List.mem_of_getElem? (i := 3) rfl)) (fun _ h9 => h9) rfl dX13_alike_109 ?_
                refine lv_bipush (v := 28) hx hb dX13_alike_112 (by decide +kernel) ?_
                refine lv_iload_n hx hb dX13_alike_114 rfl (lv_at hl 4 rfl) ?_
                refine lv_imul hx hb dX13_alike_115 ?_
                refine lv_iload hx hb dX13_alike_116 (lv_at hl 1 rfl) ?_
                refine lv_iadd hx hb dX13_alike_118 ?_
                refine va_lald hx hb hE.1 hP 8 1 rfl rfl (by rw [vp_in_iff]; first | omega | (rw [fb_addI (by omega) (by omega)]; omega)) dX13_alike_119 ?_
                refine lv_topl (fun z_40 ez_40 => ?_)
                have hxz_40 : z_40 = f_13 (28 * x1.toNatClampNeg + kk.toNatClampNeg) := by rw [ez_40, hix1]
                refine lv_aload_n hx hb dX13_alike_120 rfl (lv_at hl 3 rfl) ?_
                refine va_get (D := D) (ci := 10) (v := .ref (a 20)) (C := RX13) (T := TX13) (N := 45) hx hb hts in_X13_alike_X13 hown hE.1 hP 0 rfl rfl 20 (by decide +kernel) (hts (.fieldLink RX13 56 "ClauseBookModel" "worthAbove" "[J") (List.mem_of_getElem? (i := 3) rfl)) (fun _ h9 => h9) rfl dX13_alike_121 ?_
                refine lv_bipush (v := 28) hx hb dX13_alike_124 (by decide +kernel) ?_
                refine lv_iload_n hx hb dX13_alike_126 rfl (lv_at hl 5 rfl) ?_
                refine lv_imul hx hb dX13_alike_127 ?_
                refine lv_iload hx hb dX13_alike_128 (lv_at hl 1 rfl) ?_
                refine lv_iadd hx hb dX13_alike_130 ?_
                refine va_lald hx hb hE.1 hP 8 1 rfl rfl (by rw [vp_in_iff]; first | omega | (rw [fb_addI (by omega) (by omega)]; omega)) dX13_alike_131 ?_
                refine lv_topl (fun z_41 ez_41 => ?_)
                have hxz_41 : z_41 = f_13 (28 * x2.toNatClampNeg + kk.toNatClampNeg) := by rw [ez_41, hix2]
                refine W.lcmp hx hb dX13_alike_132 ?_
                refine lv_if_ne (tgt := 168) hx hb dX13_alike_133 (by decide +kernel) (fun c_42 => ?_) (fun c_42 => ?_)
                · rw [lcmp_eq] at c_42
                  refine lv_iconst (v := 0) hx hb dX13_alike_168 (by decide +kernel) ?_
                  refine lv_iand hx hb dX13_alike_169 ?_
                  refine lv_topi (fun z_43 ez_43 => ?_)
                  have hBz_43 : isB z_43 := by rw [ez_43]; rw [isBand0 hBi]; exact isB0
                  refine lv_istore_n (lv' := [(3, .int z_43), (4, .int z_39), (5, .int kk), (0, .ref h0), (1, .int x1), (2, .int x2)]) hx hb dX13_alike_170 rfl hl (by decide +kernel) rfl (fun ls hl => ?_)
                  obtain ⟨z_44, ez_44⟩ : ∃ y : Int32, y = kk + 1 := ⟨_, rfl⟩
                  refine lv_iinc (v := z_44) (lv' := [(5, .int z_44), (3, .int z_43), (4, .int z_39), (0, .ref h0), (1, .int x1), (2, .int x2)]) hx hb dX13_alike_171 hl (k := 2) rfl (by rw [ez_44]; rfl) (by decide +kernel) rfl (fun ls hl => ?_)
                  refine lv_goto (tgt := 60) hx hb dX13_alike_174 (by decide +kernel) ?_
                  have hi9 : z_44.toInt = kk.toInt + 1 := by rw [ez_44]; exact inc1 (i := kk) (n := 1000) (by omega) (by decide +kernel)
                  exact ih (z_44, z_39, z_43) ls ⟨lv_sub hl [0, 2, 1, 3, 4, 5] rfl, ⟨⟨(by (try dsimp only); omega), (by (try dsimp only); omega)⟩, hBz_39, hBz_43, (by (try dsimp only); rw [tnS (by omega) hi9]; exact akI_step hak (by have h8 := hoz_39; rw [ti_0] at h8; rcases Classical.em (ov.toInt = 0) with h7 | h7 <;> first | exact Or.inl ⟨h8.2 ⟨h7, rfl⟩, h7, (by rw [← hxz_22]; omega), (by rw [← hxz_37]; omega)⟩ | exact Or.inr ⟨fun h6 => h7 (h8.1 h6).1, Or.inl h7⟩) (Or.inr ⟨(by rw [ez_43, isBand0 hBi]; decide), (fun h9 => by have h8 := h9.1; rw [← hxz_40, ← hxz_41] at h8; have h7 := congrArg Int64.toInt h8; omega)⟩))⟩⟩ (by (try dsimp only); omega)
                · rw [lcmp_eq] at c_42
                  refine lv_aload_n hx hb dX13_alike_136 rfl (lv_at hl 3 rfl) ?_
                  refine va_get (D := D) (ci := 10) (v := .ref (a 21)) (C := RX13) (T := TX13) (N := 45) hx hb hts in_X13_alike_X13 hown hE.1 hP 0 rfl rfl 21 (by decide +kernel) (hts (.fieldLink RX13 60 "ClauseBookModel" "worthBelow" "[J") (List.mem_of_getElem? (i := 4) rfl)) (fun _ h9 => h9) rfl dX13_alike_137 ?_
                  refine lv_bipush (v := 28) hx hb dX13_alike_140 (by decide +kernel) ?_
                  refine lv_iload_n hx hb dX13_alike_142 rfl (lv_at hl 4 rfl) ?_
                  refine lv_imul hx hb dX13_alike_143 ?_
                  refine lv_iload hx hb dX13_alike_144 (lv_at hl 1 rfl) ?_
                  refine lv_iadd hx hb dX13_alike_146 ?_
                  refine va_lald hx hb hE.1 hP 9 1 rfl rfl (by rw [vp_in_iff]; first | omega | (rw [fb_addI (by omega) (by omega)]; omega)) dX13_alike_147 ?_
                  refine lv_topl (fun z_45 ez_45 => ?_)
                  have hxz_45 : z_45 = f_14 (28 * x1.toNatClampNeg + kk.toNatClampNeg) := by rw [ez_45, hix1]
                  refine lv_aload_n hx hb dX13_alike_148 rfl (lv_at hl 3 rfl) ?_
                  refine va_get (D := D) (ci := 10) (v := .ref (a 21)) (C := RX13) (T := TX13) (N := 45) hx hb hts in_X13_alike_X13 hown hE.1 hP 0 rfl rfl 21 (by decide +kernel) (hts (.fieldLink RX13 60 "ClauseBookModel" "worthBelow" "[J") (List.mem_of_getElem? (i := 4) rfl)) (fun _ h9 => h9) rfl dX13_alike_149 ?_
                  refine lv_bipush (v := 28) hx hb dX13_alike_152 (by decide +kernel) ?_
                  refine lv_iload_n hx hb dX13_alike_154 rfl (lv_at hl 5 rfl) ?_
                  refine lv_imul hx hb dX13_alike_155 ?_
                  refine lv_iload hx hb dX13_alike_156 (lv_at hl 1 rfl) ?_
                  refine lv_iadd hx hb dX13_alike_158 ?_
                  refine va_lald hx hb hE.1 hP 9 1 rfl rfl (by rw [vp_in_iff]; first | omega | (rw [fb_addI (by omega) (by omega)]; omega)) dX13_alike_159 ?_
                  refine lv_topl (fun z_46 ez_46 => ?_)
                  have hxz_46 : z_46 = f_14 (28 * x2.toNatClampNeg + kk.toNatClampNeg) := by rw [ez_46, hix2]
                  refine W.lcmp hx hb dX13_alike_160 ?_
                  refine lv_if_ne (tgt := 168) hx hb dX13_alike_161 (by decide +kernel) (fun c_47 => ?_) (fun c_47 => ?_)
                  · rw [lcmp_eq] at c_47
                    refine lv_iconst (v := 0) hx hb dX13_alike_168 (by decide +kernel) ?_
                    refine lv_iand hx hb dX13_alike_169 ?_
                    refine lv_topi (fun z_48 ez_48 => ?_)
                    have hBz_48 : isB z_48 := by rw [ez_48]; rw [isBand0 hBi]; exact isB0
                    refine lv_istore_n (lv' := [(3, .int z_48), (4, .int z_39), (5, .int kk), (0, .ref h0), (1, .int x1), (2, .int x2)]) hx hb dX13_alike_170 rfl hl (by decide +kernel) rfl (fun ls hl => ?_)
                    obtain ⟨z_49, ez_49⟩ : ∃ y : Int32, y = kk + 1 := ⟨_, rfl⟩
                    refine lv_iinc (v := z_49) (lv' := [(5, .int z_49), (3, .int z_48), (4, .int z_39), (0, .ref h0), (1, .int x1), (2, .int x2)]) hx hb dX13_alike_171 hl (k := 2) rfl (by rw [ez_49]; rfl) (by decide +kernel) rfl (fun ls hl => ?_)
                    refine lv_goto (tgt := 60) hx hb dX13_alike_174 (by decide +kernel) ?_
                    have hi9 : z_49.toInt = kk.toInt + 1 := by rw [ez_49]; exact inc1 (i := kk) (n := 1000) (by omega) (by decide +kernel)
                    exact ih (z_49, z_39, z_48) ls ⟨lv_sub hl [0, 2, 1, 3, 4, 5] rfl, ⟨⟨(by (try dsimp only); omega), (by (try dsimp only); omega)⟩, hBz_39, hBz_48, (by (try dsimp only); rw [tnS (by omega) hi9]; exact akI_step hak (by have h8 := hoz_39; rw [ti_0] at h8; rcases Classical.em (ov.toInt = 0) with h7 | h7 <;> first | exact Or.inl ⟨h8.2 ⟨h7, rfl⟩, h7, (by rw [← hxz_22]; omega), (by rw [← hxz_37]; omega)⟩ | exact Or.inr ⟨fun h6 => h7 (h8.1 h6).1, Or.inl h7⟩) (Or.inr ⟨(by rw [ez_48, isBand0 hBi]; decide), (fun h9 => by have h8 := h9.2; rw [← hxz_45, ← hxz_46] at h8; have h7 := congrArg Int64.toInt h8; omega)⟩))⟩⟩ (by (try dsimp only); omega)
                  · rw [lcmp_eq] at c_47
                    refine lv_iconst (v := 1) hx hb dX13_alike_164 (by decide +kernel) ?_
                    refine lv_goto (tgt := 169) hx hb dX13_alike_165 (by decide +kernel) ?_
                    refine lv_iand hx hb dX13_alike_169 ?_
                    refine lv_topi (fun z_50 ez_50 => ?_)
                    have hBz_50 : isB z_50 := by rw [ez_50]; rw [isBand1 hBi]; exact hBi
                    refine lv_istore_n (lv' := [(3, .int z_50), (4, .int z_39), (5, .int kk), (0, .ref h0), (1, .int x1), (2, .int x2)]) hx hb dX13_alike_170 rfl hl (by decide +kernel) rfl (fun ls hl => ?_)
                    obtain ⟨z_51, ez_51⟩ : ∃ y : Int32, y = kk + 1 := ⟨_, rfl⟩
                    refine lv_iinc (v := z_51) (lv' := [(5, .int z_51), (3, .int z_50), (4, .int z_39), (0, .ref h0), (1, .int x1), (2, .int x2)]) hx hb dX13_alike_171 hl (k := 2) rfl (by rw [ez_51]; rfl) (by decide +kernel) rfl (fun ls hl => ?_)
                    refine lv_goto (tgt := 60) hx hb dX13_alike_174 (by decide +kernel) ?_
                    have hi9 : z_51.toInt = kk.toInt + 1 := by rw [ez_51]; exact inc1 (i := kk) (n := 1000) (by omega) (by decide +kernel)
                    exact ih (z_51, z_39, z_50) ls ⟨lv_sub hl [0, 2, 1, 3, 4, 5] rfl, ⟨⟨(by (try dsimp only); omega), (by (try dsimp only); omega)⟩, hBz_39, hBz_50, (by (try dsimp only); rw [tnS (by omega) hi9]; exact akI_step hak (by have h8 := hoz_39; rw [ti_0] at h8; rcases Classical.em (ov.toInt = 0) with h7 | h7 <;> first | exact Or.inl ⟨h8.2 ⟨h7, rfl⟩, h7, (by rw [← hxz_22]; omega), (by rw [← hxz_37]; omega)⟩ | exact Or.inr ⟨fun h6 => h7 (h8.1 h6).1, Or.inl h7⟩) (Or.inl ⟨(by rw [ez_50, isBand1 hBi]), (by rw [← hxz_40, ← hxz_41]; exact Int64.toInt_inj.1 (by omega)), (by rw [← hxz_45, ← hxz_46]; exact Int64.toInt_inj.1 (by omega))⟩))⟩⟩ (by (try dsimp only); omega)
              · rw [fa_eq] at c_38
                try rw [ti_0] at c_38
                refine lv_iconst (v := 1) hx hb dX13_alike_99 (by decide +kernel) ?_
                refine lv_goto (tgt := 104) hx hb dX13_alike_100 (by decide +kernel) ?_
                refine lv_ior hx hb dX13_alike_104 ?_
                refine lv_topi (fun z_52 ez_52 => ?_)
                have hBz_52 : isB z_52 := by rw [ez_52]; exact isB.or hBo isB1
                have hoz_52 : z_52.toInt = 0 ↔ (ov.toInt = 0 ∧ (1 : Int32).toInt = 0) := by rw [ez_52]; exact or_iff hBo isB1
                refine lv_istore (lv' := [(4, .int z_52), (5, .int kk), (3, .int is), (0, .ref h0), (1, .int x1), (2, .int x2)]) hx hb dX13_alike_105 hl (by decide +kernel) rfl (fun ls hl => ?_)
                refine lv_iload_n hx hb dX13_alike_107 rfl (lv_at hl 2 rfl) ?_
                refine lv_aload_n hx hb dX13_alike_108 rfl (lv_at hl 3 rfl) ?_
                refine va_get (D := D) (ci := 10) (v := .ref (a 20)) (C := RX13) (T := TX13) (N := 45) hx hb hts in_X13_alike_X13 hown hE.1 hP 0 rfl rfl 20 (by decide +kernel) (hts (.fieldLink RX13 56 "ClauseBookModel" "worthAbove" "[J") (List.mem_of_getElem? (i := 3) rfl)) (fun _ h9 => h9) rfl dX13_alike_109 ?_
                refine lv_bipush (v := 28) hx hb dX13_alike_112 (by decide +kernel) ?_
                refine lv_iload_n hx hb dX13_alike_114 rfl (lv_at hl 4 rfl) ?_
                refine lv_imul hx hb dX13_alike_115 ?_
                refine lv_iload hx hb dX13_alike_116 (lv_at hl 1 rfl) ?_
                refine lv_iadd hx hb dX13_alike_118 ?_
                refine va_lald hx hb hE.1 hP 8 1 rfl rfl (by rw [vp_in_iff]; first | omega | (rw [fb_addI (by omega) (by omega)]; omega)) dX13_alike_119 ?_
                refine lv_topl (fun z_53 ez_53 => ?_)
                have hxz_53 : z_53 = f_13 (28 * x1.toNatClampNeg + kk.toNatClampNeg) := by rw [ez_53, hix1]
                refine lv_aload_n hx hb dX13_alike_120 rfl (lv_at hl 3 rfl) ?_
                refine va_get (D := D) (ci := 10) (v := .ref (a 20)) (C := RX13) (T := TX13) (N := 45) hx hb hts in_X13_alike_X13 hown hE.1 hP 0 rfl rfl 20 (by decide +kernel) (hts (.fieldLink RX13 56 "ClauseBookModel" "worthAbove" "[J") (List.mem_of_getElem? (i := 3) rfl)) (fun _ h9 => h9) rfl dX13_alike_121 ?_
                refine lv_bipush (v := 28) hx hb dX13_alike_124 (by decide +kernel) ?_
                refine lv_iload_n hx hb dX13_alike_126 rfl (lv_at hl 5 rfl) ?_
                refine lv_imul hx hb dX13_alike_127 ?_
                refine lv_iload hx hb dX13_alike_128 (lv_at hl 1 rfl) ?_
                refine lv_iadd hx hb dX13_alike_130 ?_
                refine va_lald hx hb hE.1 hP 8 1 rfl rfl (by rw [vp_in_iff]; first | omega | (rw [fb_addI (by omega) (by omega)]; omega)) dX13_alike_131 ?_
                refine lv_topl (fun z_54 ez_54 => ?_)
                have hxz_54 : z_54 = f_13 (28 * x2.toNatClampNeg + kk.toNatClampNeg) := by rw [ez_54, hix2]
                refine W.lcmp hx hb dX13_alike_132 ?_
                refine lv_if_ne (tgt := 168) hx hb dX13_alike_133 (by decide +kernel) (fun c_55 => ?_) (fun c_55 => ?_)
                · rw [lcmp_eq] at c_55
                  refine lv_iconst (v := 0) hx hb dX13_alike_168 (by decide +kernel) ?_
                  refine lv_iand hx hb dX13_alike_169 ?_
                  refine lv_topi (fun z_56 ez_56 => ?_)
                  have hBz_56 : isB z_56 := by rw [ez_56]; rw [isBand0 hBi]; exact isB0
                  refine lv_istore_n (lv' := [(3, .int z_56), (4, .int z_52), (5, .int kk), (0, .ref h0), (1, .int x1), (2, .int x2)]) hx hb dX13_alike_170 rfl hl (by decide +kernel) rfl (fun ls hl => ?_)
                  obtain ⟨z_57, ez_57⟩ : ∃ y : Int32, y = kk + 1 := ⟨_, rfl⟩
                  refine lv_iinc (v := z_57) (lv' := [(5, .int z_57), (3, .int z_56), (4, .int z_52), (0, .ref h0), (1, .int x1), (2, .int x2)]) hx hb dX13_alike_171 hl (k := 2) rfl (by rw [ez_57]; rfl) (by decide +kernel) rfl (fun ls hl => ?_)
                  refine lv_goto (tgt := 60) hx hb dX13_alike_174 (by decide +kernel) ?_
                  have hi9 : z_57.toInt = kk.toInt + 1 := by rw [ez_57]; exact inc1 (i := kk) (n := 1000) (by omega) (by decide +kernel)
                  exact ih (z_57, z_52, z_56) ls ⟨lv_sub hl [0, 2, 1, 3, 4, 5] rfl, ⟨⟨(by (try dsimp only); omega), (by (try dsimp only); omega)⟩, hBz_52, hBz_56, (by (try dsimp only); rw [tnS (by omega) hi9]; exact akI_step hak (Or.inr ⟨(fun h8 => by have h7 := (hoz_52.1 h8).2; rw [ti_1] at h7; omega), Or.inr (Or.inr (by rw [← hxz_37]; omega))⟩) (Or.inr ⟨(by rw [ez_56, isBand0 hBi]; decide), (fun h9 => by have h8 := h9.1; rw [← hxz_53, ← hxz_54] at h8; have h7 := congrArg Int64.toInt h8; omega)⟩))⟩⟩ (by (try dsimp only); omega)
                · rw [lcmp_eq] at c_55
                  refine lv_aload_n hx hb dX13_alike_136 rfl (lv_at hl 3 rfl) ?_
                  refine va_get (D := D) (ci := 10) (v := .ref (a 21)) (C := RX13) (T := TX13) (N := 45) hx hb hts in_X13_alike_X13 hown hE.1 hP 0 rfl rfl 21 (by decide +kernel) (hts (.fieldLink RX13 60 "ClauseBookModel" "worthBelow" "[J") (List.mem_of_getElem? (i := 4) rfl)) (fun _ h9 => h9) rfl dX13_alike_137 ?_
                  refine lv_bipush (v := 28) hx hb dX13_alike_140 (by decide +kernel) ?_
                  refine lv_iload_n hx hb dX13_alike_142 rfl (lv_at hl 4 rfl) ?_
                  refine lv_imul hx hb dX13_alike_143 ?_
                  refine lv_iload hx hb dX13_alike_144 (lv_at hl 1 rfl) ?_
                  refine lv_iadd hx hb dX13_alike_146 ?_
                  refine va_lald hx hb hE.1 hP 9 1 rfl rfl (by rw [vp_in_iff]; first | omega | (rw [fb_addI (by omega) (by omega)]; omega)) dX13_alike_147 ?_
                  refine lv_topl (fun z_58 ez_58 => ?_)
                  have hxz_58 : z_58 = f_14 (28 * x1.toNatClampNeg + kk.toNatClampNeg) := by rw [ez_58, hix1]
                  refine lv_aload_n hx hb dX13_alike_148 rfl (lv_at hl 3 rfl) ?_
                  refine va_get (D := D) (ci := 10) (v := .ref (a 21)) (C := RX13) (T := TX13) (N := 45) hx hb hts in_X13_alike_X13 hown hE.1 hP 0 rfl rfl 21 (by decide +kernel) (hts (.fieldLink RX13 60 "ClauseBookModel" "worthBelow" "[J") (List.mem_of_getElem? (i := 4) rfl)) (fun _ h9 => h9) rfl dX13_alike_149 ?_
                  refine lv_bipush (v := 28) hx hb dX13_alike_152 (by decide +kernel) ?_
                  refine lv_iload_n hx hb dX13_alike_154 rfl (lv_at hl 5 rfl) ?_
                  refine lv_imul hx hb dX13_alike_155 ?_
                  refine lv_iload hx hb dX13_alike_156 (lv_at hl 1 rfl) ?_
                  refine lv_iadd hx hb dX13_alike_158 ?_
                  refine va_lald hx hb hE.1 hP 9 1 rfl rfl (by rw [vp_in_iff]; first | omega | (rw [fb_addI (by omega) (by omega)]; omega)) dX13_alike_159 ?_
                  refine lv_topl (fun z_59 ez_59 => ?_)
                  have hxz_59 : z_59 = f_14 (28 * x2.toNatClampNeg + kk.toNatClampNeg) := by rw [ez_59, hix2]
                  refine W.lcmp hx hb dX13_alike_160 ?_
                  refine lv_if_ne (tgt := 168) hx hb dX13_alike_161 (by decide +kernel) (fun c_60 => ?_) (fun c_60 => ?_)
                  · rw [lcmp_eq] at c_60
                    refine lv_iconst (v := 0) hx hb dX13_alike_168 (by decide +kernel) ?_
                    refine lv_iand hx hb dX13_alike_169 ?_
                    refine lv_topi (fun z_61 ez_61 => ?_)
                    have hBz_61 : isB z_61 := by rw [ez_61]; rw [isBand0 hBi]; exact isB0
                    refine lv_istore_n (lv' := [(3, .int z_61), (4, .int z_52), (5, .int kk), (0, .ref h0), (1, .int x1), (2, .int x2)]) hx hb dX13_alike_170 rfl hl (by decide +kernel) rfl (fun ls hl => ?_)
                    obtain ⟨z_62, ez_62⟩ : ∃ y : Int32, y = kk + 1 := ⟨_, rfl⟩
                    refine lv_iinc (v := z_62) (lv' := [(5, .int z_62), (3, .int z_61), (4, .int z_52), (0, .ref h0), (1, .int x1), (2, .int x2)]) hx hb dX13_alike_171 hl (k := 2) rfl (by rw [ez_62]; rfl) (by decide +kernel) rfl (fun ls hl => ?_)
                    refine lv_goto (tgt := 60) hx hb dX13_alike_174 (by decide +kernel) ?_
                    have hi9 : z_62.toInt = kk.toInt + 1 := by rw [ez_62]; exact inc1 (i := kk) (n := 1000) (by omega) (by decide +kernel)
                    exact ih (z_62, z_52, z_61) ls ⟨lv_sub hl [0, 2, 1, 3, 4, 5] rfl, ⟨⟨(by (try dsimp only); omega), (by (try dsimp only); omega)⟩, hBz_52, hBz_61, (by (try dsimp only); rw [tnS (by omega) hi9]; exact akI_step hak (Or.inr ⟨(fun h8 => by have h7 := (hoz_52.1 h8).2; rw [ti_1] at h7; omega), Or.inr (Or.inr (by rw [← hxz_37]; omega))⟩) (Or.inr ⟨(by rw [ez_61, isBand0 hBi]; decide), (fun h9 => by have h8 := h9.2; rw [← hxz_58, ← hxz_59] at h8; have h7 := congrArg Int64.toInt h8; omega)⟩))⟩⟩ (by (try dsimp only); omega)
                  · rw [lcmp_eq] at c_60
                    refine lv_iconst (v := 1) hx hb dX13_alike_164 (by decide +kernel) ?_
                    refine lv_goto (tgt := 169) hx hb dX13_alike_165 (by decide +kernel) ?_
                    refine lv_iand hx hb dX13_alike_169 ?_
                    refine lv_topi (fun z_63 ez_63 => ?_)
                    have hBz_63 : isB z_63 := by rw [ez_63]; rw [isBand1 hBi]; exact hBi
                    refine lv_istore_n (lv' := [(3, .int z_63), (4, .int z_52), (5, .int kk), (0, .ref h0), (1, .int x1), (2, .int x2)]) hx hb dX13_alike_170 rfl hl (by decide +kernel) rfl (fun ls hl => ?_)
                    obtain ⟨z_64, ez_64⟩ : ∃ y : Int32, y = kk + 1 := ⟨_, rfl⟩
                    refine lv_iinc (v := z_64) (lv' := [(5, .int z_64), (3, .int z_63), (4, .int z_52), (0, .ref h0), (1, .int x1), (2, .int x2)]) hx hb dX13_alike_171 hl (k := 2) rfl (by rw [ez_64]; rfl) (by decide +kernel) rfl (fun ls hl => ?_)
                    refine lv_goto (tgt := 60) hx hb dX13_alike_174 (by decide +kernel) ?_
                    have hi9 : z_64.toInt = kk.toInt + 1 := by rw [ez_64]; exact inc1 (i := kk) (n := 1000) (by omega) (by decide +kernel)
                    exact ih (z_64, z_52, z_63) ls ⟨lv_sub hl [0, 2, 1, 3, 4, 5] rfl, ⟨⟨(by (try dsimp only); omega), (by (try dsimp only); omega)⟩, hBz_52, hBz_63, (by (try dsimp only); rw [tnS (by omega) hi9]; exact akI_step hak (Or.inr ⟨(fun h8 => by have h7 := (hoz_52.1 h8).2; rw [ti_1] at h7; omega), Or.inr (Or.inr (by rw [← hxz_37]; omega))⟩) (Or.inl ⟨(by rw [ez_63, isBand1 hBi]), (by rw [← hxz_53, ← hxz_54]; exact Int64.toInt_inj.1 (by omega)), (by rw [← hxz_58, ← hxz_59]; exact Int64.toInt_inj.1 (by omega))⟩))⟩⟩ (by (try dsimp only); omega)
        · rw [fa_eq] at c_18
          refine lv_iconst (v := 1) hx hb dX13_alike_48 (by decide +kernel) ?_
          refine lv_goto (tgt := 53) hx hb dX13_alike_49 (by decide +kernel) ?_
          refine lv_istore_n (lv' := [(3, .int 1), (0, .ref h0), (1, .int x1), (2, .int x2)]) hx hb dX13_alike_53 rfl hl (by decide +kernel) rfl (fun ls hl => ?_)
          refine lv_iconst (v := 0) hx hb dX13_alike_54 (by decide +kernel) ?_
          refine lv_istore (lv' := [(4, .int 0), (3, .int 1), (0, .ref h0), (1, .int x1), (2, .int x2)]) hx hb dX13_alike_55 hl (by decide +kernel) rfl (fun ls hl => ?_)
          refine lv_iconst (v := 0) hx hb dX13_alike_57 (by decide +kernel) ?_
          refine lv_istore (lv' := [(5, .int 0), (4, .int 0), (3, .int 1), (0, .ref h0), (1, .int x1), (2, .int x2)]) hx hb dX13_alike_58 hl (by decide +kernel) rfl (fun ls hl => ?_)
          refine loopR (σ := (Int32) × (Int32) × (Int32)) (fun x9 ls => lv_has ls 6 [(5, .int x9.1), (4, .int x9.2.1), (3, .int x9.2.2), (0, .ref h0), (1, .int x1), (2, .int x2)] ∧ ((0 ≤ x9.1.toInt ∧ x9.1.toInt ≤ 28) ∧ isB x9.2.1 ∧ isB x9.2.2 ∧ akI f_13 f_14 f_15 ((f_10 (x1.toNatClampNeg)).toInt = (f_10 (x2.toNatClampNeg)).toInt) (28 * x1.toNatClampNeg) (28 * x2.toNatClampNeg) x9.1.toNatClampNeg x9.2.1 x9.2.2)) (fun x9 => (28 - x9.1.toInt).toNat) (fun x9 ls hI ih => ?_) (0, 0, 1) ls ⟨lv_sub hl [0, 1, 2, 3, 4, 5] rfl, ⟨⟨(by (try dsimp only); decide), (by (try dsimp only); decide)⟩, isB0, isB1, (by (try dsimp only); exact akI_0y (by omega))⟩⟩
          obtain ⟨kk, ov, is⟩ := x9
          obtain ⟨hl, hinv⟩ := hI
          have hl : lv_has ls 6 [(5, .int kk), (4, .int ov), (3, .int is), (0, .ref h0), (1, .int x1), (2, .int x2)] := hl
          have hinv : (0 ≤ kk.toInt ∧ kk.toInt ≤ 28) ∧ isB ov ∧ isB is ∧ akI f_13 f_14 f_15 ((f_10 (x1.toNatClampNeg)).toInt = (f_10 (x2.toNatClampNeg)).toInt) (28 * x1.toNatClampNeg) (28 * x2.toNatClampNeg) kk.toNatClampNeg ov is := hinv
          obtain ⟨hkk, hBo, hBi, hak⟩ := hinv
          have h28x1 : (28 * x1).toInt = 28 * x1.toInt := by rw [fb_mulI (by rw [ti_28]; omega) (by rw [ti_28]; omega), ti_28]
          have h28x2 : (28 * x2).toInt = 28 * x2.toInt := by rw [fb_mulI (by rw [ti_28]; omega) (by rw [ti_28]; omega), ti_28]
          refine lv_iload hx hb dX13_alike_60 (lv_at hl 0 rfl) ?_
          refine lv_bipush (v := 28) hx hb dX13_alike_62 (by decide +kernel) ?_
          refine lv_icmp_ge (tgt := 177) hx hb dX13_alike_64 (by decide +kernel) (fun c_65 => ?_) (fun c_65 => ?_)
          · rw [fa_le] at c_65
            try rw [ti_28] at c_65
            have hk28 : kk.toNatClampNeg = 28 := by have h9 := tn (x := kk) (by omega); omega
            have hak9 : akI f_13 f_14 f_15 ((f_10 (x1.toNatClampNeg)).toInt = (f_10 (x2.toNatClampNeg)).toInt) (28 * x1.toNatClampNeg) (28 * x2.toNatClampNeg) 28 ov is := by rw [hk28] at hak; exact hak
            refine lv_iload hx hb dX13_alike_177 (lv_at hl 1 rfl) ?_
            refine lv_if_eq (tgt := 187) hx hb dX13_alike_179 (by decide +kernel) (fun c_66 => ?_) (fun c_66 => ?_)
            · rw [fa_eq] at c_66
              try rw [ti_0] at c_66
              refine lv_iload_n hx hb dX13_alike_187 rfl (lv_at hl 2 rfl) ?_
              refine lv_if_eq (tgt := 195) hx hb dX13_alike_188 (by decide +kernel) (fun c_67 => ?_) (fun c_67 => ?_)
              · rw [fa_eq] at c_67
                try rw [ti_0] at c_67
                refine lv_iconst (v := 0) hx hb dX13_alike_195 (by decide +kernel) ?_
                exact W.iret hx hb hr (fun t ht hW => ⟨⟨_, (0, l_8, l_9, f_10, f_11, f_12, f_13, f_14, f_15), rfl, ⟨(show isB 0 from isB0), (show ∀ j : Nat, isB (f_15 j) from hZ), (show (0 ≤ x1.toInt ∧ x1.toInt < (q 7).toInt) ∧ 0 ≤ x2.toInt ∧ x2.toInt < (q 7).toInt → ∀ j : Nat, (j : Int) < (q 7).toInt → mesP f8 f9 f10 f11 f_10 f_11 f_12 j from (fun _ => hMEr)), (show alkQ (VALW (lqW (q 0) (q 1) (q 2) (q 3) (q 4) (q 5) (q 6)) f8 f9 f10 f11 f_10) f_10 (q 7) x1 x2 (0 : Int32) from (akI_end (g0 := f_13) (g1 := f_14) (g2 := f_15) (ov := ov) (is := is) ⟨⟨(by omega), (by omega)⟩, (by omega), (by omega)⟩ (fun t s g => ⟨hTV x1 t s g (by omega) (by omega), hTV x2 t s g (by omega) (by omega)⟩) (fun t s g => ⟨(hW1 _ (by have h9 := slN_b (c := x1) (x := (x1 + 1)) (t := t) (k := s) (by have h8 := inc1 (i := x1) (n := 24) (by omega) (by decide +kernel); omega) g; have h8 := inc1 (i := x1) (n := 24) (by omega) (by decide +kernel); omega)), (hW1 _ (by have h9 := slN_b (c := x2) (x := (x2 + 1)) (t := t) (k := s) (by have h8 := inc1 (i := x2) (n := 24) (by omega) (by decide +kernel); omega) g; have h8 := inc1 (i := x2) (n := 24) (by omega) (by decide +kernel); omega))⟩) hak9 (by first | exact Or.inl ⟨by omega, by decide⟩ | exact Or.inr ⟨by omega, Or.inl ⟨by omega, by decide⟩⟩ | exact Or.inr ⟨by omega, Or.inr ⟨by omega, by decide⟩⟩)))⟩, by rw [ht]; exact hP.sub [0, 1, 2, 3, 4, 5, 6, 7, 8, 9, 10] rfl, hD.sub [0, 1, 2, 3, 4, 5, 6, 7, 8, 9, 10] (by decide +kernel) rfl⟩, hS.F ht⟩) hS.2.2 dX13_alike_196
              · rw [fa_eq] at c_67
                try rw [ti_0] at c_67
                refine lv_iconst (v := 1) hx hb dX13_alike_191 (by decide +kernel) ?_
                refine lv_goto (tgt := 196) hx hb dX13_alike_192 (by decide +kernel) ?_
                exact W.iret hx hb hr (fun t ht hW => ⟨⟨_, (0, l_8, l_9, f_10, f_11, f_12, f_13, f_14, f_15), rfl, ⟨(show isB 0 from isB0), (show ∀ j : Nat, isB (f_15 j) from hZ), (show (0 ≤ x1.toInt ∧ x1.toInt < (q 7).toInt) ∧ 0 ≤ x2.toInt ∧ x2.toInt < (q 7).toInt → ∀ j : Nat, (j : Int) < (q 7).toInt → mesP f8 f9 f10 f11 f_10 f_11 f_12 j from (fun _ => hMEr)), (show alkQ (VALW (lqW (q 0) (q 1) (q 2) (q 3) (q 4) (q 5) (q 6)) f8 f9 f10 f11 f_10) f_10 (q 7) x1 x2 (1 : Int32) from (akI_end (g0 := f_13) (g1 := f_14) (g2 := f_15) (ov := ov) (is := is) ⟨⟨(by omega), (by omega)⟩, (by omega), (by omega)⟩ (fun t s g => ⟨hTV x1 t s g (by omega) (by omega), hTV x2 t s g (by omega) (by omega)⟩) (fun t s g => ⟨(hW1 _ (by have h9 := slN_b (c := x1) (x := (x1 + 1)) (t := t) (k := s) (by have h8 := inc1 (i := x1) (n := 24) (by omega) (by decide +kernel); omega) g; have h8 := inc1 (i := x1) (n := 24) (by omega) (by decide +kernel); omega)), (hW1 _ (by have h9 := slN_b (c := x2) (x := (x2 + 1)) (t := t) (k := s) (by have h8 := inc1 (i := x2) (n := 24) (by omega) (by decide +kernel); omega) g; have h8 := inc1 (i := x2) (n := 24) (by omega) (by decide +kernel); omega))⟩) hak9 (by first | exact Or.inl ⟨by omega, by decide⟩ | exact Or.inr ⟨by omega, Or.inl ⟨by omega, by decide⟩⟩ | exact Or.inr ⟨by omega, Or.inr ⟨by omega, by decide⟩⟩)))⟩, by rw [ht]; exact hP.sub [0, 1, 2, 3, 4, 5, 6, 7, 8, 9, 10] rfl, hD.sub [0, 1, 2, 3, 4, 5, 6, 7, 8, 9, 10] (by decide +kernel) rfl⟩, hS.F ht⟩) hS.2.2 dX13_alike_196
            · rw [fa_eq] at c_66
              try rw [ti_0] at c_66
              refine lv_bipush (v := (-5)) hx hb dX13_alike_182 (by decide +kernel) ?_
              refine lv_goto (tgt := 196) hx hb dX13_alike_184 (by decide +kernel) ?_
              exact W.iret hx hb hr (fun t ht hW => ⟨⟨_, (0, l_8, l_9, f_10, f_11, f_12, f_13, f_14, f_15), rfl, ⟨(show isB 0 from isB0), (show ∀ j : Nat, isB (f_15 j) from hZ), (show (0 ≤ x1.toInt ∧ x1.toInt < (q 7).toInt) ∧ 0 ≤ x2.toInt ∧ x2.toInt < (q 7).toInt → ∀ j : Nat, (j : Int) < (q 7).toInt → mesP f8 f9 f10 f11 f_10 f_11 f_12 j from (fun _ => hMEr)), (show alkQ (VALW (lqW (q 0) (q 1) (q 2) (q 3) (q 4) (q 5) (q 6)) f8 f9 f10 f11 f_10) f_10 (q 7) x1 x2 ((-5) : Int32) from (akI_end (g0 := f_13) (g1 := f_14) (g2 := f_15) (ov := ov) (is := is) ⟨⟨(by omega), (by omega)⟩, (by omega), (by omega)⟩ (fun t s g => ⟨hTV x1 t s g (by omega) (by omega), hTV x2 t s g (by omega) (by omega)⟩) (fun t s g => ⟨(hW1 _ (by have h9 := slN_b (c := x1) (x := (x1 + 1)) (t := t) (k := s) (by have h8 := inc1 (i := x1) (n := 24) (by omega) (by decide +kernel); omega) g; have h8 := inc1 (i := x1) (n := 24) (by omega) (by decide +kernel); omega)), (hW1 _ (by have h9 := slN_b (c := x2) (x := (x2 + 1)) (t := t) (k := s) (by have h8 := inc1 (i := x2) (n := 24) (by omega) (by decide +kernel); omega) g; have h8 := inc1 (i := x2) (n := 24) (by omega) (by decide +kernel); omega))⟩) hak9 (by first | exact Or.inl ⟨by omega, by decide⟩ | exact Or.inr ⟨by omega, Or.inl ⟨by omega, by decide⟩⟩ | exact Or.inr ⟨by omega, Or.inr ⟨by omega, by decide⟩⟩)))⟩, by rw [ht]; exact hP.sub [0, 1, 2, 3, 4, 5, 6, 7, 8, 9, 10] rfl, hD.sub [0, 1, 2, 3, 4, 5, 6, 7, 8, 9, 10] (by decide +kernel) rfl⟩, hS.F ht⟩) hS.2.2 dX13_alike_196
          · rw [fa_le] at c_65
            try rw [ti_28] at c_65
            have hix1 : ((28 * x1) + kk).toNatClampNeg = 28 * x1.toNatClampNeg + kk.toNatClampNeg := ak_ix (by omega) (by omega)
            have hix2 : ((28 * x2) + kk).toNatClampNeg = 28 * x2.toNatClampNeg + kk.toNatClampNeg := ak_ix (by omega) (by omega)
            refine lv_iload hx hb dX13_alike_67 (lv_at hl 1 rfl) ?_
            refine lv_aload_n hx hb dX13_alike_69 rfl (lv_at hl 3 rfl) ?_
            refine va_get (D := D) (ci := 10) (v := .ref (a 22)) (C := RX13) (T := TX13) (N := 45) hx hb hts in_X13_alike_X13 hown hE.1 hP 0 rfl rfl 22 (by decide +kernel) (hts (.fieldLink RX13 63 "ClauseBookModel" "worthMuch" "[Z") (List.mem_of_getElem? (i := 2) rfl)) (fun _ h9 => h9) rfl dX13_alike_70 ?_
            refine lv_bipush (v := 28) hx hb dX13_alike_73 (by decide +kernel) ?_
            refine lv_iload_n hx hb dX13_alike_75 rfl (lv_at hl 4 rfl) ?_
            refine lv_imul hx hb dX13_alike_76 ?_
            refine lv_iload hx hb dX13_alike_77 (lv_at hl 0 rfl) ?_
            refine lv_iadd hx hb dX13_alike_79 ?_
            refine va_zald hx hb hE.1 hP 10 4 rfl rfl (by rw [vp_in_iff]; first | omega | (rw [fb_addI (by omega) (by omega)]; omega)) dX13_alike_80 ?_
            refine lv_topi (fun z_68 ez_68 => ?_)
            have hxz_68 : z_68 = f_15 (28 * x1.toNatClampNeg + kk.toNatClampNeg) := by rw [ez_68, hix1]
            refine lv_if_ne (tgt := 99) hx hb dX13_alike_81 (by decide +kernel) (fun c_69 => ?_) (fun c_69 => ?_)
            · rw [fa_eq] at c_69
              try rw [ti_0] at c_69
              refine lv_iconst (v := 1) hx hb dX13_alike_99 (by decide +kernel) ?_
              refine lv_goto (tgt := 104) hx hb dX13_alike_100 (by decide +kernel) ?_
              refine lv_ior hx hb dX13_alike_104 ?_
              refine lv_topi (fun z_70 ez_70 => ?_)
              have hBz_70 : isB z_70 := by rw [ez_70]; exact isB.or hBo isB1
              have hoz_70 : z_70.toInt = 0 ↔ (ov.toInt = 0 ∧ (1 : Int32).toInt = 0) := by rw [ez_70]; exact or_iff hBo isB1
              refine lv_istore (lv' := [(4, .int z_70), (5, .int kk), (3, .int is), (0, .ref h0), (1, .int x1), (2, .int x2)]) hx hb dX13_alike_105 hl (by decide +kernel) rfl (fun ls hl => ?_)
              refine lv_iload_n hx hb dX13_alike_107 rfl (lv_at hl 2 rfl) ?_
              refine lv_aload_n hx hb dX13_alike_108 rfl (lv_at hl 3 rfl) ?_
              refine va_get (D := D) (ci := 10) (v := .ref (a 20)) (C := RX13) (T := TX13) (N := 45) hx hb hts in_X13_alike_X13 hown hE.1 hP 0 rfl rfl 20 (by decide +kernel) (hts (.fieldLink RX13 56 "ClauseBookModel" "worthAbove" "[J") (List.mem_of_getElem? (i := 3) rfl)) (fun _ h9 => h9) rfl dX13_alike_109 ?_
              refine lv_bipush (v := 28) hx hb dX13_alike_112 (by decide +kernel) ?_
              refine lv_iload_n hx hb dX13_alike_114 rfl (lv_at hl 4 rfl) ?_
              refine lv_imul hx hb dX13_alike_115 ?_
              refine lv_iload hx hb dX13_alike_116 (lv_at hl 1 rfl) ?_
              refine lv_iadd hx hb dX13_alike_118 ?_
              refine va_lald hx hb hE.1 hP 8 1 rfl rfl (by rw [vp_in_iff]; first | omega | (rw [fb_addI (by omega) (by omega)]; omega)) dX13_alike_119 ?_
              refine lv_topl (fun z_71 ez_71 => ?_)
              have hxz_71 : z_71 = f_13 (28 * x1.toNatClampNeg + kk.toNatClampNeg) := by rw [ez_71, hix1]
              refine lv_aload_n hx hb dX13_alike_120 rfl (lv_at hl 3 rfl) ?_
              refine va_get (D := D) (ci := 10) (v := .ref (a 20)) (C := RX13) (T := TX13) (N := 45) hx hb hts in_X13_alike_X13 hown hE.1 hP 0 rfl rfl 20 (by decide +kernel) (hts (.fieldLink RX13 56 "ClauseBookModel" "worthAbove" "[J") (List.mem_of_getElem? (i := 3) rfl)) (fun _ h9 => h9) rfl dX13_alike_121 ?_
              refine lv_bipush (v := 28) hx hb dX13_alike_124 (by decide +kernel) ?_
              refine lv_iload_n hx hb dX13_alike_126 rfl (lv_at hl 5 rfl) ?_
              refine lv_imul hx hb dX13_alike_127 ?_
              refine lv_iload hx hb dX13_alike_128 (lv_at hl 1 rfl) ?_
              refine lv_iadd hx hb dX13_alike_130 ?_
              refine va_lald hx hb hE.1 hP 8 1 rfl rfl (by rw [vp_in_iff]; first | omega | (rw [fb_addI (by omega) (by omega)]; omega)) dX13_alike_131 ?_
              refine lv_topl (fun z_72 ez_72 => ?_)
              have hxz_72 : z_72 = f_13 (28 * x2.toNatClampNeg + kk.toNatClampNeg) := by rw [ez_72, hix2]
              refine W.lcmp hx hb dX13_alike_132 ?_
              refine lv_if_ne (tgt := 168) hx hb dX13_alike_133 (by decide +kernel) (fun c_73 => ?_) (fun c_73 => ?_)
              · rw [lcmp_eq] at c_73
                refine lv_iconst (v := 0) hx hb dX13_alike_168 (by decide +kernel) ?_
                refine lv_iand hx hb dX13_alike_169 ?_
                refine lv_topi (fun z_74 ez_74 => ?_)
                have hBz_74 : isB z_74 := by rw [ez_74]; rw [isBand0 hBi]; exact isB0
                refine lv_istore_n (lv' := [(3, .int z_74), (4, .int z_70), (5, .int kk), (0, .ref h0), (1, .int x1), (2, .int x2)]) hx hb dX13_alike_170 rfl hl (by decide +kernel) rfl (fun ls hl => ?_)
                obtain ⟨z_75, ez_75⟩ : ∃ y : Int32, y = kk + 1 := ⟨_, rfl⟩
                refine lv_iinc (v := z_75) (lv' := [(5, .int z_75), (3, .int z_74), (4, .int z_70), (0, .ref h0), (1, .int x1), (2, .int x2)]) hx hb dX13_alike_171 hl (k := 2) rfl (by rw [ez_75]; rfl) (by decide +kernel) rfl (fun ls hl => ?_)
                refine lv_goto (tgt := 60) hx hb dX13_alike_174 (by decide +kernel) ?_
                have hi9 : z_75.toInt = kk.toInt + 1 := by rw [ez_75]; exact inc1 (i := kk) (n := 1000) (by omega) (by decide +kernel)
                exact ih (z_75, z_70, z_74) ls ⟨lv_sub hl [0, 2, 1, 3, 4, 5] rfl, ⟨⟨(by (try dsimp only); omega), (by (try dsimp only); omega)⟩, hBz_70, hBz_74, (by (try dsimp only); rw [tnS (by omega) hi9]; exact akI_step hak (Or.inr ⟨(fun h8 => by have h7 := (hoz_70.1 h8).2; rw [ti_1] at h7; omega), Or.inr (Or.inl (by rw [← hxz_68]; omega))⟩) (Or.inr ⟨(by rw [ez_74, isBand0 hBi]; decide), (fun h9 => by have h8 := h9.1; rw [← hxz_71, ← hxz_72] at h8; have h7 := congrArg Int64.toInt h8; omega)⟩))⟩⟩ (by (try dsimp only); omega)
              · rw [lcmp_eq] at c_73
                refine lv_aload_n hx hb dX13_alike_136 rfl (lv_at hl 3 rfl) ?_
                refine va_get (D := D) (ci := 10) (v := .ref (a 21)) (C := RX13) (T := TX13) (N := 45) hx hb hts in_X13_alike_X13 hown hE.1 hP 0 rfl rfl 21 (by decide +kernel) (hts (.fieldLink RX13 60 "ClauseBookModel" "worthBelow" "[J") (List.mem_of_getElem? (i := 4) rfl)) (fun _ h9 => h9) rfl dX13_alike_137 ?_
                refine lv_bipush (v := 28) hx hb dX13_alike_140 (by decide +kernel) ?_
                refine lv_iload_n hx hb dX13_alike_142 rfl (lv_at hl 4 rfl) ?_
                refine lv_imul hx hb dX13_alike_143 ?_
                refine lv_iload hx hb dX13_alike_144 (lv_at hl 1 rfl) ?_
                refine lv_iadd hx hb dX13_alike_146 ?_
                refine va_lald hx hb hE.1 hP 9 1 rfl rfl (by rw [vp_in_iff]; first | omega | (rw [fb_addI (by omega) (by omega)]; omega)) dX13_alike_147 ?_
                refine lv_topl (fun z_76 ez_76 => ?_)
                have hxz_76 : z_76 = f_14 (28 * x1.toNatClampNeg + kk.toNatClampNeg) := by rw [ez_76, hix1]
                refine lv_aload_n hx hb dX13_alike_148 rfl (lv_at hl 3 rfl) ?_
                refine va_get (D := D) (ci := 10) (v := .ref (a 21)) (C := RX13) (T := TX13) (N := 45) hx hb hts in_X13_alike_X13 hown hE.1 hP 0 rfl rfl 21 (by decide +kernel) (hts (.fieldLink RX13 60 "ClauseBookModel" "worthBelow" "[J") (List.mem_of_getElem? (i := 4) rfl)) (fun _ h9 => h9) rfl dX13_alike_149 ?_
                refine lv_bipush (v := 28) hx hb dX13_alike_152 (by decide +kernel) ?_
                refine lv_iload_n hx hb dX13_alike_154 rfl (lv_at hl 5 rfl) ?_
                refine lv_imul hx hb dX13_alike_155 ?_
                refine lv_iload hx hb dX13_alike_156 (lv_at hl 1 rfl) ?_
                refine lv_iadd hx hb dX13_alike_158 ?_
                refine va_lald hx hb hE.1 hP 9 1 rfl rfl (by rw [vp_in_iff]; first | omega | (rw [fb_addI (by omega) (by omega)]; omega)) dX13_alike_159 ?_
                refine lv_topl (fun z_77 ez_77 => ?_)
                have hxz_77 : z_77 = f_14 (28 * x2.toNatClampNeg + kk.toNatClampNeg) := by rw [ez_77, hix2]
                refine W.lcmp hx hb dX13_alike_160 ?_
                refine lv_if_ne (tgt := 168) hx hb dX13_alike_161 (by decide +kernel) (fun c_78 => ?_) (fun c_78 => ?_)
                · rw [lcmp_eq] at c_78
                  refine lv_iconst (v := 0) hx hb dX13_alike_168 (by decide +kernel) ?_
                  refine lv_iand hx hb dX13_alike_169 ?_
                  refine lv_topi (fun z_79 ez_79 => ?_)
                  have hBz_79 : isB z_79 := by rw [ez_79]; rw [isBand0 hBi]; exact isB0
                  refine lv_istore_n (lv' := [(3, .int z_79), (4, .int z_70), (5, .int kk), (0, .ref h0), (1, .int x1), (2, .int x2)]) hx hb dX13_alike_170 rfl hl (by decide +kernel) rfl (fun ls hl => ?_)
                  obtain ⟨z_80, ez_80⟩ : ∃ y : Int32, y = kk + 1 := ⟨_, rfl⟩
                  refine lv_iinc (v := z_80) (lv' := [(5, .int z_80), (3, .int z_79), (4, .int z_70), (0, .ref h0), (1, .int x1), (2, .int x2)]) hx hb dX13_alike_171 hl (k := 2) rfl (by rw [ez_80]; rfl) (by decide +kernel) rfl (fun ls hl => ?_)
                  refine lv_goto (tgt := 60) hx hb dX13_alike_174 (by decide +kernel) ?_
                  have hi9 : z_80.toInt = kk.toInt + 1 := by rw [ez_80]; exact inc1 (i := kk) (n := 1000) (by omega) (by decide +kernel)
                  exact ih (z_80, z_70, z_79) ls ⟨lv_sub hl [0, 2, 1, 3, 4, 5] rfl, ⟨⟨(by (try dsimp only); omega), (by (try dsimp only); omega)⟩, hBz_70, hBz_79, (by (try dsimp only); rw [tnS (by omega) hi9]; exact akI_step hak (Or.inr ⟨(fun h8 => by have h7 := (hoz_70.1 h8).2; rw [ti_1] at h7; omega), Or.inr (Or.inl (by rw [← hxz_68]; omega))⟩) (Or.inr ⟨(by rw [ez_79, isBand0 hBi]; decide), (fun h9 => by have h8 := h9.2; rw [← hxz_76, ← hxz_77] at h8; have h7 := congrArg Int64.toInt h8; omega)⟩))⟩⟩ (by (try dsimp only); omega)
                · rw [lcmp_eq] at c_78
                  refine lv_iconst (v := 1) hx hb dX13_alike_164 (by decide +kernel) ?_
                  refine lv_goto (tgt := 169) hx hb dX13_alike_165 (by decide +kernel) ?_
                  refine lv_iand hx hb dX13_alike_169 ?_
                  refine lv_topi (fun z_81 ez_81 => ?_)
                  have hBz_81 : isB z_81 := by rw [ez_81]; rw [isBand1 hBi]; exact hBi
                  refine lv_istore_n (lv' := [(3, .int z_81), (4, .int z_70), (5, .int kk), (0, .ref h0), (1, .int x1), (2, .int x2)]) hx hb dX13_alike_170 rfl hl (by decide +kernel) rfl (fun ls hl => ?_)
                  obtain ⟨z_82, ez_82⟩ : ∃ y : Int32, y = kk + 1 := ⟨_, rfl⟩
                  refine lv_iinc (v := z_82) (lv' := [(5, .int z_82), (3, .int z_81), (4, .int z_70), (0, .ref h0), (1, .int x1), (2, .int x2)]) hx hb dX13_alike_171 hl (k := 2) rfl (by rw [ez_82]; rfl) (by decide +kernel) rfl (fun ls hl => ?_)
                  refine lv_goto (tgt := 60) hx hb dX13_alike_174 (by decide +kernel) ?_
                  have hi9 : z_82.toInt = kk.toInt + 1 := by rw [ez_82]; exact inc1 (i := kk) (n := 1000) (by omega) (by decide +kernel)
                  exact ih (z_82, z_70, z_81) ls ⟨lv_sub hl [0, 2, 1, 3, 4, 5] rfl, ⟨⟨(by (try dsimp only); omega), (by (try dsimp only); omega)⟩, hBz_70, hBz_81, (by (try dsimp only); rw [tnS (by omega) hi9]; exact akI_step hak (Or.inr ⟨(fun h8 => by have h7 := (hoz_70.1 h8).2; rw [ti_1] at h7; omega), Or.inr (Or.inl (by rw [← hxz_68]; omega))⟩) (Or.inl ⟨(by rw [ez_81, isBand1 hBi]), (by rw [← hxz_71, ← hxz_72]; exact Int64.toInt_inj.1 (by omega)), (by rw [← hxz_76, ← hxz_77]; exact Int64.toInt_inj.1 (by omega))⟩))⟩⟩ (by (try dsimp only); omega)
            · rw [fa_eq] at c_69
              try rw [ti_0] at c_69
              refine lv_aload_n hx hb dX13_alike_84 rfl (lv_at hl 3 rfl) ?_
              refine va_get (D := D) (ci := 10) (v := .ref (a 22)) (C := RX13) (T := TX13) (N := 45) hx hb hts in_X13_alike_X13 hown hE.1 hP 0 rfl rfl 22 (by decide +kernel) (hts (.fieldLink RX13 63 "ClauseBookModel" "worthMuch" "[Z") (List.mem_of_getElem? (i := 2) rfl)) (fun _ h9 => h9) rfl dX13_alike_85 ?_
              refine lv_bipush (v := 28) hx hb dX13_alike_88 (by decide +kernel) ?_
              refine lv_iload_n hx hb dX13_alike_90 rfl (lv_at hl 5 rfl) ?_
              refine lv_imul hx hb dX13_alike_91 ?_
              refine lv_iload hx hb dX13_alike_92 (lv_at hl 0 rfl) ?_
              refine lv_iadd hx hb dX13_alike_94 ?_
              refine va_zald hx hb hE.1 hP 10 4 rfl rfl (by rw [vp_in_iff]; first | omega | (rw [fb_addI (by omega) (by omega)]; omega)) dX13_alike_95 ?_
              refine lv_topi (fun z_83 ez_83 => ?_)
              have hxz_83 : z_83 = f_15 (28 * x2.toNatClampNeg + kk.toNatClampNeg) := by rw [ez_83, hix2]
              refine lv_if_eq (tgt := 103) hx hb dX13_alike_96 (by decide +kernel) (fun c_84 => ?_) (fun c_84 => ?_)
              · rw [fa_eq] at c_84
                try rw [ti_0] at c_84
                refine lv_iconst (v := 0) hx hb dX13_alike_103 (by decide +kernel) ?_
                refine lv_ior hx hb dX13_alike_104 ?_
                refine lv_topi (fun z_85 ez_85 => ?_)
                have hBz_85 : isB z_85 := by rw [ez_85]; exact isB.or hBo isB0
                have hoz_85 : z_85.toInt = 0 ↔ (ov.toInt = 0 ∧ (0 : Int32).toInt = 0) := by rw [ez_85]; exact or_iff hBo isB0
                refine lv_istore (lv' := [(4, .int z_85), (5, .int kk), (3, .int is), (0, .ref h0), (1, .int x1), (2, .int x2)]) hx hb dX13_alike_105 hl (by decide +kernel) rfl (fun ls hl => ?_)
                refine lv_iload_n hx hb dX13_alike_107 rfl (lv_at hl 2 rfl) ?_
                refine lv_aload_n hx hb dX13_alike_108 rfl (lv_at hl 3 rfl) ?_
                refine va_get (D := D) (ci := 10) (v := .ref (a 20)) (C := RX13) (T := TX13) (N := 45) hx hb hts in_X13_alike_X13 hown hE.1 hP 0 rfl rfl 20 (by decide +kernel) (hts (.fieldLink RX13 56 "ClauseBookModel" "worthAbove" "[J") (List.mem_of_getElem? (i := 3) rfl)) (fun _ h9 => h9) rfl dX13_alike_109 ?_
                refine lv_bipush (v := 28) hx hb dX13_alike_112 (by decide +kernel) ?_
                refine lv_iload_n hx hb dX13_alike_114 rfl (lv_at hl 4 rfl) ?_
                refine lv_imul hx hb dX13_alike_115 ?_
                refine lv_iload hx hb dX13_alike_116 (lv_at hl 1 rfl) ?_
                refine lv_iadd hx hb dX13_alike_118 ?_
                refine va_lald hx hb hE.1 hP 8 1 rfl rfl (by rw [vp_in_iff]; first | omega | (rw [fb_addI (by omega) (by omega)]; omega)) dX13_alike_119 ?_
                refine lv_topl (fun z_86 ez_86 => ?_)
                have hxz_86 : z_86 = f_13 (28 * x1.toNatClampNeg + kk.toNatClampNeg) := by rw [ez_86, hix1]
                refine lv_aload_n hx hb dX13_alike_120 rfl (lv_at hl 3 rfl) ?_
                refine va_get (D := D) (ci := 10) (v := .ref (a 20)) (C := RX13) (T := TX13) (N := 45) hx hb hts in_X13_alike_X13 hown hE.1 hP 0 rfl rfl 20 (by decide +kernel) (hts (.fieldLink RX13 56 "ClauseBookModel" "worthAbove" "[J") (List.mem_of_getElem? (i := 3) rfl)) (fun _ h9 => h9) rfl dX13_alike_121 ?_
                refine lv_bipush (v := 28) hx hb dX13_alike_124 (by decide +kernel) ?_
                refine lv_iload_n hx hb dX13_alike_126 rfl (lv_at hl 5 rfl) ?_
                refine lv_imul hx hb dX13_alike_127 ?_
                refine lv_iload hx hb dX13_alike_128 (lv_at hl 1 rfl) ?_
                refine lv_iadd hx hb dX13_alike_130 ?_
                refine va_lald hx hb hE.1 hP 8 1 rfl rfl (by rw [vp_in_iff]; first | omega | (rw [fb_addI (by omega) (by omega)]; omega)) dX13_alike_131 ?_
                refine lv_topl (fun z_87 ez_87 => ?_)
                have hxz_87 : z_87 = f_13 (28 * x2.toNatClampNeg + kk.toNatClampNeg) := by rw [ez_87, hix2]
                refine W.lcmp hx hb dX13_alike_132 ?_
                refine lv_if_ne (tgt := 168) hx hb dX13_alike_133 (by decide +kernel) (fun c_88 => ?_) (fun c_88 => ?_)
                · rw [lcmp_eq] at c_88
                  refine lv_iconst (v := 0) hx hb dX13_alike_168 (by decide +kernel) ?_
                  refine lv_iand hx hb dX13_alike_169 ?_
                  refine lv_topi (fun z_89 ez_89 => ?_)
                  have hBz_89 : isB z_89 := by rw [ez_89]; rw [isBand0 hBi]; exact isB0
                  refine lv_istore_n (lv' := [(3, .int z_89), (4, .int z_85), (5, .int kk), (0, .ref h0), (1, .int x1), (2, .int x2)]) hx hb dX13_alike_170 rfl hl (by decide +kernel) rfl (fun ls hl => ?_)
                  obtain ⟨z_90, ez_90⟩ : ∃ y : Int32, y = kk + 1 := ⟨_, rfl⟩
                  refine lv_iinc (v := z_90) (lv' := [(5, .int z_90), (3, .int z_89), (4, .int z_85), (0, .ref h0), (1, .int x1), (2, .int x2)]) hx hb dX13_alike_171 hl (k := 2) rfl (by rw [ez_90]; rfl) (by decide +kernel) rfl (fun ls hl => ?_)
                  refine lv_goto (tgt := 60) hx hb dX13_alike_174 (by decide +kernel) ?_
                  have hi9 : z_90.toInt = kk.toInt + 1 := by rw [ez_90]; exact inc1 (i := kk) (n := 1000) (by omega) (by decide +kernel)
                  exact ih (z_90, z_85, z_89) ls ⟨lv_sub hl [0, 2, 1, 3, 4, 5] rfl, ⟨⟨(by (try dsimp only); omega), (by (try dsimp only); omega)⟩, hBz_85, hBz_89, (by (try dsimp only); rw [tnS (by omega) hi9]; exact akI_step hak (by have h8 := hoz_85; rw [ti_0] at h8; rcases Classical.em (ov.toInt = 0) with h7 | h7 <;> first | exact Or.inl ⟨h8.2 ⟨h7, rfl⟩, h7, (by rw [← hxz_68]; omega), (by rw [← hxz_83]; omega)⟩ | exact Or.inr ⟨fun h6 => h7 (h8.1 h6).1, Or.inl h7⟩) (Or.inr ⟨(by rw [ez_89, isBand0 hBi]; decide), (fun h9 => by have h8 := h9.1; rw [← hxz_86, ← hxz_87] at h8; have h7 := congrArg Int64.toInt h8; omega)⟩))⟩⟩ (by (try dsimp only); omega)
                · rw [lcmp_eq] at c_88
                  refine lv_aload_n hx hb dX13_alike_136 rfl (lv_at hl 3 rfl) ?_
                  refine va_get (D := D) (ci := 10) (v := .ref (a 21)) (C := RX13) (T := TX13) (N := 45) hx hb hts in_X13_alike_X13 hown hE.1 hP 0 rfl rfl 21 (by decide +kernel) (hts (.fieldLink RX13 60 "ClauseBookModel" "worthBelow" "[J") (List.mem_of_getElem? (i := 4) rfl)) (fun _ h9 => h9) rfl dX13_alike_137 ?_
                  refine lv_bipush (v := 28) hx hb dX13_alike_140 (by decide +kernel) ?_
                  refine lv_iload_n hx hb dX13_alike_142 rfl (lv_at hl 4 rfl) ?_
                  refine lv_imul hx hb dX13_alike_143 ?_
                  refine lv_iload hx hb dX13_alike_144 (lv_at hl 1 rfl) ?_
                  refine lv_iadd hx hb dX13_alike_146 ?_
                  refine va_lald hx hb hE.1 hP 9 1 rfl rfl (by rw [vp_in_iff]; first | omega | (rw [fb_addI (by omega) (by omega)]; omega)) dX13_alike_147 ?_
                  refine lv_topl (fun z_91 ez_91 => ?_)
                  have hxz_91 : z_91 = f_14 (28 * x1.toNatClampNeg + kk.toNatClampNeg) := by rw [ez_91, hix1]
                  refine lv_aload_n hx hb dX13_alike_148 rfl (lv_at hl 3 rfl) ?_
                  refine va_get (D := D) (ci := 10) (v := .ref (a 21)) (C := RX13) (T := TX13) (N := 45) hx hb hts in_X13_alike_X13 hown hE.1 hP 0 rfl rfl 21 (by decide +kernel) (hts (.fieldLink RX13 60 "ClauseBookModel" "worthBelow" "[J") (List.mem_of_getElem? (i := 4) rfl)) (fun _ h9 => h9) rfl dX13_alike_149 ?_
                  refine lv_bipush (v := 28) hx hb dX13_alike_152 (by decide +kernel) ?_
                  refine lv_iload_n hx hb dX13_alike_154 rfl (lv_at hl 5 rfl) ?_
                  refine lv_imul hx hb dX13_alike_155 ?_
                  refine lv_iload hx hb dX13_alike_156 (lv_at hl 1 rfl) ?_
                  refine lv_iadd hx hb dX13_alike_158 ?_
                  refine va_lald hx hb hE.1 hP 9 1 rfl rfl (by rw [vp_in_iff]; first | omega | (rw [fb_addI (by omega) (by omega)]; omega)) dX13_alike_159 ?_
                  refine lv_topl (fun z_92 ez_92 => ?_)
                  have hxz_92 : z_92 = f_14 (28 * x2.toNatClampNeg + kk.toNatClampNeg) := by rw [ez_92, hix2]
                  refine W.lcmp hx hb dX13_alike_160 ?_
                  refine lv_if_ne (tgt := 168) hx hb dX13_alike_161 (by decide +kernel) (fun c_93 => ?_) (fun c_93 => ?_)
                  · rw [lcmp_eq] at c_93
                    refine lv_iconst (v := 0) hx hb dX13_alike_168 (by decide +kernel) ?_
                    refine lv_iand hx hb dX13_alike_169 ?_
                    refine lv_topi (fun z_94 ez_94 => ?_)
                    have hBz_94 : isB z_94 := by rw [ez_94]; rw [isBand0 hBi]; exact isB0
                    refine lv_istore_n (lv' := [(3, .int z_94), (4, .int z_85), (5, .int kk), (0, .ref h0), (1, .int x1), (2, .int x2)]) hx hb dX13_alike_170 rfl hl (by decide +kernel) rfl (fun ls hl => ?_)
                    obtain ⟨z_95, ez_95⟩ : ∃ y : Int32, y = kk + 1 := ⟨_, rfl⟩
                    refine lv_iinc (v := z_95) (lv' := [(5, .int z_95), (3, .int z_94), (4, .int z_85), (0, .ref h0), (1, .int x1), (2, .int x2)]) hx hb dX13_alike_171 hl (k := 2) rfl (by rw [ez_95]; rfl) (by decide +kernel) rfl (fun ls hl => ?_)
                    refine lv_goto (tgt := 60) hx hb dX13_alike_174 (by decide +kernel) ?_
                    have hi9 : z_95.toInt = kk.toInt + 1 := by rw [ez_95]; exact inc1 (i := kk) (n := 1000) (by omega) (by decide +kernel)
                    exact ih (z_95, z_85, z_94) ls ⟨lv_sub hl [0, 2, 1, 3, 4, 5] rfl, ⟨⟨(by (try dsimp only); omega), (by (try dsimp only); omega)⟩, hBz_85, hBz_94, (by (try dsimp only); rw [tnS (by omega) hi9]; exact akI_step hak (by have h8 := hoz_85; rw [ti_0] at h8; rcases Classical.em (ov.toInt = 0) with h7 | h7 <;> first | exact Or.inl ⟨h8.2 ⟨h7, rfl⟩, h7, (by rw [← hxz_68]; omega), (by rw [← hxz_83]; omega)⟩ | exact Or.inr ⟨fun h6 => h7 (h8.1 h6).1, Or.inl h7⟩) (Or.inr ⟨(by rw [ez_94, isBand0 hBi]; decide), (fun h9 => by have h8 := h9.2; rw [← hxz_91, ← hxz_92] at h8; have h7 := congrArg Int64.toInt h8; omega)⟩))⟩⟩ (by (try dsimp only); omega)
                  · rw [lcmp_eq] at c_93
                    refine lv_iconst (v := 1) hx hb dX13_alike_164 (by decide +kernel) ?_
                    refine lv_goto (tgt := 169) hx hb dX13_alike_165 (by decide +kernel) ?_
                    refine lv_iand hx hb dX13_alike_169 ?_
                    refine lv_topi (fun z_96 ez_96 => ?_)
                    have hBz_96 : isB z_96 := by rw [ez_96]; rw [isBand1 hBi]; exact hBi
                    refine lv_istore_n (lv' := [(3, .int z_96), (4, .int z_85), (5, .int kk), (0, .ref h0), (1, .int x1), (2, .int x2)]) hx hb dX13_alike_170 rfl hl (by decide +kernel) rfl (fun ls hl => ?_)
                    obtain ⟨z_97, ez_97⟩ : ∃ y : Int32, y = kk + 1 := ⟨_, rfl⟩
                    refine lv_iinc (v := z_97) (lv' := [(5, .int z_97), (3, .int z_96), (4, .int z_85), (0, .ref h0), (1, .int x1), (2, .int x2)]) hx hb dX13_alike_171 hl (k := 2) rfl (by rw [ez_97]; rfl) (by decide +kernel) rfl (fun ls hl => ?_)
                    refine lv_goto (tgt := 60) hx hb dX13_alike_174 (by decide +kernel) ?_
                    have hi9 : z_97.toInt = kk.toInt + 1 := by rw [ez_97]; exact inc1 (i := kk) (n := 1000) (by omega) (by decide +kernel)
                    exact ih (z_97, z_85, z_96) ls ⟨lv_sub hl [0, 2, 1, 3, 4, 5] rfl, ⟨⟨(by (try dsimp only); omega), (by (try dsimp only); omega)⟩, hBz_85, hBz_96, (by (try dsimp only); rw [tnS (by omega) hi9]; exact akI_step hak (by have h8 := hoz_85; rw [ti_0] at h8; rcases Classical.em (ov.toInt = 0) with h7 | h7 <;> first | exact Or.inl ⟨h8.2 ⟨h7, rfl⟩, h7, (by rw [← hxz_68]; omega), (by rw [← hxz_83]; omega)⟩ | exact Or.inr ⟨fun h6 => h7 (h8.1 h6).1, Or.inl h7⟩) (Or.inl ⟨(by rw [ez_96, isBand1 hBi]), (by rw [← hxz_86, ← hxz_87]; exact Int64.toInt_inj.1 (by omega)), (by rw [← hxz_91, ← hxz_92]; exact Int64.toInt_inj.1 (by omega))⟩))⟩⟩ (by (try dsimp only); omega)
              · rw [fa_eq] at c_84
                try rw [ti_0] at c_84
                refine lv_iconst (v := 1) hx hb dX13_alike_99 (by decide +kernel) ?_
                refine lv_goto (tgt := 104) hx hb dX13_alike_100 (by decide +kernel) ?_
                refine lv_ior hx hb dX13_alike_104 ?_
                refine lv_topi (fun z_98 ez_98 => ?_)
                have hBz_98 : isB z_98 := by rw [ez_98]; exact isB.or hBo isB1
                have hoz_98 : z_98.toInt = 0 ↔ (ov.toInt = 0 ∧ (1 : Int32).toInt = 0) := by rw [ez_98]; exact or_iff hBo isB1
                refine lv_istore (lv' := [(4, .int z_98), (5, .int kk), (3, .int is), (0, .ref h0), (1, .int x1), (2, .int x2)]) hx hb dX13_alike_105 hl (by decide +kernel) rfl (fun ls hl => ?_)
                refine lv_iload_n hx hb dX13_alike_107 rfl (lv_at hl 2 rfl) ?_
                refine lv_aload_n hx hb dX13_alike_108 rfl (lv_at hl 3 rfl) ?_
                refine va_get (D := D) (ci := 10) (v := .ref (a 20)) (C := RX13) (T := TX13) (N := 45) hx hb hts in_X13_alike_X13 hown hE.1 hP 0 rfl rfl 20 (by decide +kernel) (hts (.fieldLink RX13 56 "ClauseBookModel" "worthAbove" "[J") (List.mem_of_getElem? (i := 3) rfl)) (fun _ h9 => h9) rfl dX13_alike_109 ?_
                refine lv_bipush (v := 28) hx hb dX13_alike_112 (by decide +kernel) ?_
                refine lv_iload_n hx hb dX13_alike_114 rfl (lv_at hl 4 rfl) ?_
                refine lv_imul hx hb dX13_alike_115 ?_
                refine lv_iload hx hb dX13_alike_116 (lv_at hl 1 rfl) ?_
                refine lv_iadd hx hb dX13_alike_118 ?_
                refine va_lald hx hb hE.1 hP 8 1 rfl rfl (by rw [vp_in_iff]; first | omega | (rw [fb_addI (by omega) (by omega)]; omega)) dX13_alike_119 ?_
                refine lv_topl (fun z_99 ez_99 => ?_)
                have hxz_99 : z_99 = f_13 (28 * x1.toNatClampNeg + kk.toNatClampNeg) := by rw [ez_99, hix1]
                refine lv_aload_n hx hb dX13_alike_120 rfl (lv_at hl 3 rfl) ?_
                refine va_get (D := D) (ci := 10) (v := .ref (a 20)) (C := RX13) (T := TX13) (N := 45) hx hb hts in_X13_alike_X13 hown hE.1 hP 0 rfl rfl 20 (by decide +kernel) (hts (.fieldLink RX13 56 "ClauseBookModel" "worthAbove" "[J") (List.mem_of_getElem? (i := 3) rfl)) (fun _ h9 => h9) rfl dX13_alike_121 ?_
                refine lv_bipush (v := 28) hx hb dX13_alike_124 (by decide +kernel) ?_
                refine lv_iload_n hx hb dX13_alike_126 rfl (lv_at hl 5 rfl) ?_
                refine lv_imul hx hb dX13_alike_127 ?_
                refine lv_iload hx hb dX13_alike_128 (lv_at hl 1 rfl) ?_
                refine lv_iadd hx hb dX13_alike_130 ?_
                refine va_lald hx hb hE.1 hP 8 1 rfl rfl (by rw [vp_in_iff]; first | omega | (rw [fb_addI (by omega) (by omega)]; omega)) dX13_alike_131 ?_
                refine lv_topl (fun z_100 ez_100 => ?_)
                have hxz_100 : z_100 = f_13 (28 * x2.toNatClampNeg + kk.toNatClampNeg) := by rw [ez_100, hix2]
                refine W.lcmp hx hb dX13_alike_132 ?_
                refine lv_if_ne (tgt := 168) hx hb dX13_alike_133 (by decide +kernel) (fun c_101 => ?_) (fun c_101 => ?_)
                · rw [lcmp_eq] at c_101
                  refine lv_iconst (v := 0) hx hb dX13_alike_168 (by decide +kernel) ?_
                  refine lv_iand hx hb dX13_alike_169 ?_
                  refine lv_topi (fun z_102 ez_102 => ?_)
                  have hBz_102 : isB z_102 := by rw [ez_102]; rw [isBand0 hBi]; exact isB0
                  refine lv_istore_n (lv' := [(3, .int z_102), (4, .int z_98), (5, .int kk), (0, .ref h0), (1, .int x1), (2, .int x2)]) hx hb dX13_alike_170 rfl hl (by decide +kernel) rfl (fun ls hl => ?_)
                  obtain ⟨z_103, ez_103⟩ : ∃ y : Int32, y = kk + 1 := ⟨_, rfl⟩
                  refine lv_iinc (v := z_103) (lv' := [(5, .int z_103), (3, .int z_102), (4, .int z_98), (0, .ref h0), (1, .int x1), (2, .int x2)]) hx hb dX13_alike_171 hl (k := 2) rfl (by rw [ez_103]; rfl) (by decide +kernel) rfl (fun ls hl => ?_)
                  refine lv_goto (tgt := 60) hx hb dX13_alike_174 (by decide +kernel) ?_
                  have hi9 : z_103.toInt = kk.toInt + 1 := by rw [ez_103]; exact inc1 (i := kk) (n := 1000) (by omega) (by decide +kernel)
                  exact ih (z_103, z_98, z_102) ls ⟨lv_sub hl [0, 2, 1, 3, 4, 5] rfl, ⟨⟨(by (try dsimp only); omega), (by (try dsimp only); omega)⟩, hBz_98, hBz_102, (by (try dsimp only); rw [tnS (by omega) hi9]; exact akI_step hak (Or.inr ⟨(fun h8 => by have h7 := (hoz_98.1 h8).2; rw [ti_1] at h7; omega), Or.inr (Or.inr (by rw [← hxz_83]; omega))⟩) (Or.inr ⟨(by rw [ez_102, isBand0 hBi]; decide), (fun h9 => by have h8 := h9.1; rw [← hxz_99, ← hxz_100] at h8; have h7 := congrArg Int64.toInt h8; omega)⟩))⟩⟩ (by (try dsimp only); omega)
                · rw [lcmp_eq] at c_101
                  refine lv_aload_n hx hb dX13_alike_136 rfl (lv_at hl 3 rfl) ?_
                  refine va_get (D := D) (ci := 10) (v := .ref (a 21)) (C := RX13) (T := TX13) (N := 45) hx hb hts in_X13_alike_X13 hown hE.1 hP 0 rfl rfl 21 (by decide +kernel) (hts (.fieldLink RX13 60 "ClauseBookModel" "worthBelow" "[J") (List.mem_of_getElem? (i := 4) rfl)) (fun _ h9 => h9) rfl dX13_alike_137 ?_
                  refine lv_bipush (v := 28) hx hb dX13_alike_140 (by decide +kernel) ?_
                  refine lv_iload_n hx hb dX13_alike_142 rfl (lv_at hl 4 rfl) ?_
                  refine lv_imul hx hb dX13_alike_143 ?_
                  refine lv_iload hx hb dX13_alike_144 (lv_at hl 1 rfl) ?_
                  refine lv_iadd hx hb dX13_alike_146 ?_
                  refine va_lald hx hb hE.1 hP 9 1 rfl rfl (by rw [vp_in_iff]; first | omega | (rw [fb_addI (by omega) (by omega)]; omega)) dX13_alike_147 ?_
                  refine lv_topl (fun z_104 ez_104 => ?_)
                  have hxz_104 : z_104 = f_14 (28 * x1.toNatClampNeg + kk.toNatClampNeg) := by rw [ez_104, hix1]
                  refine lv_aload_n hx hb dX13_alike_148 rfl (lv_at hl 3 rfl) ?_
                  refine va_get (D := D) (ci := 10) (v := .ref (a 21)) (C := RX13) (T := TX13) (N := 45) hx hb hts in_X13_alike_X13 hown hE.1 hP 0 rfl rfl 21 (by decide +kernel) (hts (.fieldLink RX13 60 "ClauseBookModel" "worthBelow" "[J") (List.mem_of_getElem? (i := 4) rfl)) (fun _ h9 => h9) rfl dX13_alike_149 ?_
                  refine lv_bipush (v := 28) hx hb dX13_alike_152 (by decide +kernel) ?_
                  refine lv_iload_n hx hb dX13_alike_154 rfl (lv_at hl 5 rfl) ?_
                  refine lv_imul hx hb dX13_alike_155 ?_
                  refine lv_iload hx hb dX13_alike_156 (lv_at hl 1 rfl) ?_
                  refine lv_iadd hx hb dX13_alike_158 ?_
                  refine va_lald hx hb hE.1 hP 9 1 rfl rfl (by rw [vp_in_iff]; first | omega | (rw [fb_addI (by omega) (by omega)]; omega)) dX13_alike_159 ?_
                  refine lv_topl (fun z_105 ez_105 => ?_)
                  have hxz_105 : z_105 = f_14 (28 * x2.toNatClampNeg + kk.toNatClampNeg) := by rw [ez_105, hix2]
                  refine W.lcmp hx hb dX13_alike_160 ?_
                  refine lv_if_ne (tgt := 168) hx hb dX13_alike_161 (by decide +kernel) (fun c_106 => ?_) (fun c_106 => ?_)
                  · rw [lcmp_eq] at c_106
                    refine lv_iconst (v := 0) hx hb dX13_alike_168 (by decide +kernel) ?_
                    refine lv_iand hx hb dX13_alike_169 ?_
                    refine lv_topi (fun z_107 ez_107 => ?_)
                    have hBz_107 : isB z_107 := by rw [ez_107]; rw [isBand0 hBi]; exact isB0
                    refine lv_istore_n (lv' := [(3, .int z_107), (4, .int z_98), (5, .int kk), (0, .ref h0), (1, .int x1), (2, .int x2)]) hx hb dX13_alike_170 rfl hl (by decide +kernel) rfl (fun ls hl => ?_)
                    obtain ⟨z_108, ez_108⟩ : ∃ y : Int32, y = kk + 1 := ⟨_, rfl⟩
                    refine lv_iinc (v := z_108) (lv' := [(5, .int z_108), (3, .int z_107), (4, .int z_98), (0, .ref h0), (1, .int x1), (2, .int x2)]) hx hb dX13_alike_171 hl (k := 2) rfl (by rw [ez_108]; rfl) (by decide +kernel) rfl (fun ls hl => ?_)
                    refine lv_goto (tgt := 60) hx hb dX13_alike_174 (by decide +kernel) ?_
                    have hi9 : z_108.toInt = kk.toInt + 1 := by rw [ez_108]; exact inc1 (i := kk) (n := 1000) (by omega) (by decide +kernel)
                    exact ih (z_108, z_98, z_107) ls ⟨lv_sub hl [0, 2, 1, 3, 4, 5] rfl, ⟨⟨(by (try dsimp only); omega), (by (try dsimp only); omega)⟩, hBz_98, hBz_107, (by (try dsimp only); rw [tnS (by omega) hi9]; exact akI_step hak (Or.inr ⟨(fun h8 => by have h7 := (hoz_98.1 h8).2; rw [ti_1] at h7; omega), Or.inr (Or.inr (by rw [← hxz_83]; omega))⟩) (Or.inr ⟨(by rw [ez_107, isBand0 hBi]; decide), (fun h9 => by have h8 := h9.2; rw [← hxz_104, ← hxz_105] at h8; have h7 := congrArg Int64.toInt h8; omega)⟩))⟩⟩ (by (try dsimp only); omega)
                  · rw [lcmp_eq] at c_106
                    refine lv_iconst (v := 1) hx hb dX13_alike_164 (by decide +kernel) ?_
                    refine lv_goto (tgt := 169) hx hb dX13_alike_165 (by decide +kernel) ?_
                    refine lv_iand hx hb dX13_alike_169 ?_
                    refine lv_topi (fun z_109 ez_109 => ?_)
                    have hBz_109 : isB z_109 := by rw [ez_109]; rw [isBand1 hBi]; exact hBi
                    refine lv_istore_n (lv' := [(3, .int z_109), (4, .int z_98), (5, .int kk), (0, .ref h0), (1, .int x1), (2, .int x2)]) hx hb dX13_alike_170 rfl hl (by decide +kernel) rfl (fun ls hl => ?_)
                    obtain ⟨z_110, ez_110⟩ : ∃ y : Int32, y = kk + 1 := ⟨_, rfl⟩
                    refine lv_iinc (v := z_110) (lv' := [(5, .int z_110), (3, .int z_109), (4, .int z_98), (0, .ref h0), (1, .int x1), (2, .int x2)]) hx hb dX13_alike_171 hl (k := 2) rfl (by rw [ez_110]; rfl) (by decide +kernel) rfl (fun ls hl => ?_)
                    refine lv_goto (tgt := 60) hx hb dX13_alike_174 (by decide +kernel) ?_
                    have hi9 : z_110.toInt = kk.toInt + 1 := by rw [ez_110]; exact inc1 (i := kk) (n := 1000) (by omega) (by decide +kernel)
                    exact ih (z_110, z_98, z_109) ls ⟨lv_sub hl [0, 2, 1, 3, 4, 5] rfl, ⟨⟨(by (try dsimp only); omega), (by (try dsimp only); omega)⟩, hBz_98, hBz_109, (by (try dsimp only); rw [tnS (by omega) hi9]; exact akI_step hak (Or.inr ⟨(fun h8 => by have h7 := (hoz_98.1 h8).2; rw [ti_1] at h7; omega), Or.inr (Or.inr (by rw [← hxz_83]; omega))⟩) (Or.inl ⟨(by rw [ez_109, isBand1 hBi]), (by rw [← hxz_99, ← hxz_100]; exact Int64.toInt_inj.1 (by omega)), (by rw [← hxz_104, ← hxz_105]; exact Int64.toInt_inj.1 (by omega))⟩))⟩⟩ (by (try dsimp only); omega)
      · rw [fa_le] at c_5
        refine lv_iload_n hx hb dX13_alike_25 rfl (lv_at hl 1 rfl) ?_
        refine lv_goto (tgt := 30) hx hb dX13_alike_26 (by decide +kernel) ?_
        have hFc := va_free (wc := [(h0, .inr (10, (Value.int (q 0) :: Value.int (q 1) :: Value.int (q 2) :: Value.int (q 3) :: Value.int (q 4) :: Value.int (q 5) :: Value.int (q 6) :: Value.int (q 7) :: Value.ref (a 8) :: Value.ref (a 9) :: Value.ref (a 10) :: Value.ref (a 11) :: Value.ref (a 12) :: Value.ref (a 13) :: Value.int (q 14) :: Value.long v :: Value.long w :: Value.ref (a 17) :: Value.ref (a 18) :: Value.ref (a 19) :: Value.ref (a 20) :: Value.ref (a 21) :: Value.ref (a 22) :: Value.ref (a 23) :: Value.int (q 24) :: Value.ref (a 25) :: Value.int (q 26) :: Value.ref (a 27) :: Value.int (q 28) :: Value.int (q 29) :: Value.int (q 30) :: Value.int (q 31) :: Value.int (q 32) :: Value.int (q 33) :: Value.ref (a 34) :: Value.ref (a 35) :: Value.ref (a 36) :: Value.ref (a 37) :: Value.ref (a 38) :: Value.ref (a 39) :: Value.ref (a 40) :: Value.int (q 41) :: Value.ref (a 42) :: Value.int (q 43) :: Value.int (q 44) :: []))), ((a 8), .inl (T 0, 24, .inl f8)), ((a 9), .inl (T 0, 24, .inl f9)), ((a 10), .inl (T 0, 24, .inl f10)), ((a 11), .inl (T 0, 24, .inl f11)), ((a 17), .inl (T 0, 24, .inl f17)), ((a 18), .inl (T 0, 24, .inl f18)), ((a 19), .inl (T 0, 24, .inl f19)), ((a 20), .inl (T 1, 672, .inr (.inl f20))), ((a 21), .inl (T 1, 672, .inr (.inl f21))), ((a 22), .inl (T 4, 672, .inl f22))]) hD hS hA [0, 1, 2, 3, 4, 5, 6, 7, 8, 9, 10] rfl
        refine va_callv (va_runV (As := [.int x1]) (rest := []) ⟨hx, hb, hml, hown, hts⟩ (c_X13_laysWorths l D T _ h0 q v w a f8 f9 f10 f11 f17 f18 f19 f20 f21 f22 x1 (show 0 ≤ (q 7).toInt ∧ (q 7).toInt ≤ 24 from (by omega)) (show okR f8 f10 f11 from hokR) (show ∀ j : Nat, isB (f22 j) from hZ) (show (1 ≤ (q 4).toInt ∧ (q 4).toInt ≤ 9) ∧ 1 ≤ (q 6).toInt ∧ (q 6).toInt ≤ 9 from (by omega)) (show -1 ≤ x1.toInt ∧ x1.toInt < (q 7).toInt from (by omega))) (cwV 1 hts gX13_alike_X13_laysWorths rfl rfl rfl hv_X13_laysWorths ⟨Nat.le_of_ble_eq_true rfl, Nat.le_of_ble_eq_true rfl⟩) (pW_V (q := (RX13, TX13, 45)) (ci := 10) (q0 := 0) hP hE hD rfl rfl [0, 1, 2, 3, 4, 5, 6, 7, 8, 9, 10] (by decide +kernel) rfl rfl) rfl rfl hl.1 rfl (lv_room (Nat.le_of_ble_eq_true rfl)) dX13_alike_30 ⟨Nat.le_of_ble_eq_true rfl, Nat.le_of_ble_eq_true rfl⟩) hS (fun q _ h => hFc q h) hFc (fun u_112 t H1 locs ht hvm hr_111 hB hz1 hk1 hS => ?_)
        obtain ⟨l_113, l_114, f_115, f_116, f_117, f_118, f_119, f_120⟩ := u_112
        obtain ⟨hi0_r_111, hi1_r_111, hi2_r_111, hi3_r_111, hi4_r_111⟩ := hr_111
        have hZ : ∀ j : Nat, isB (f_120 j) := hi0_r_111
        have hEE : okE f8 f10 f_115 (q 7).toInt := hi1_r_111
        have hW1 : ∀ j : Nat, (j : Int) < 28 * (x1.toInt + 1) → 1 ≤ (f_119 j).toInt := hi2_r_111
        have hTV : ∀ y t s : Int32, spK t s → 0 ≤ y.toInt → y.toInt ≤ x1.toInt → tabW f_118 f_119 f_120 y t s = VALW (lqW (q 0) (q 1) (q 2) (q 3) (q 4) (q 5) (q 6)) f8 f9 f10 f11 f_115 y t s := hi3_r_111
        have hMEr : ∀ j : Nat, (j : Int) < (q 7).toInt → mesP f8 f9 f10 f11 f_115 f_116 f_117 j := hi4_r_111
        obtain ⟨hP1, hD1⟩ := hB
        rw [ht] at hP1
        obtain ⟨hP, hD⟩ := va_repl [(h0, .inr (10, (Value.int (q 0) :: Value.int (q 1) :: Value.int (q 2) :: Value.int (q 3) :: Value.int (q 4) :: Value.int (q 5) :: Value.int (q 6) :: Value.int (q 7) :: Value.ref (a 8) :: Value.ref (a 9) :: Value.ref (a 10) :: Value.ref (a 11) :: Value.ref (a 12) :: Value.ref (a 13) :: Value.int 0 :: Value.long l_113 :: Value.long l_114 :: Value.ref (a 17) :: Value.ref (a 18) :: Value.ref (a 19) :: Value.ref (a 20) :: Value.ref (a 21) :: Value.ref (a 22) :: Value.ref (a 23) :: Value.int (q 24) :: Value.ref (a 25) :: Value.int (q 26) :: Value.ref (a 27) :: Value.int (q 28) :: Value.int (q 29) :: Value.int (q 30) :: Value.int (q 31) :: Value.int (q 32) :: Value.int (q 33) :: Value.ref (a 34) :: Value.ref (a 35) :: Value.ref (a 36) :: Value.ref (a 37) :: Value.ref (a 38) :: Value.ref (a 39) :: Value.ref (a 40) :: Value.int (q 41) :: Value.ref (a 42) :: Value.int (q 43) :: Value.int (q 44) :: []))), ((a 8), .inl (T 0, 24, .inl f8)), ((a 9), .inl (T 0, 24, .inl f9)), ((a 10), .inl (T 0, 24, .inl f10)), ((a 11), .inl (T 0, 24, .inl f11)), ((a 17), .inl (T 0, 24, .inl f_115)), ((a 18), .inl (T 0, 24, .inl f_116)), ((a 19), .inl (T 0, 24, .inl f_117)), ((a 20), .inl (T 1, 672, .inr (.inl f_118))), ((a 21), .inl (T 1, 672, .inr (.inl f_119))), ((a 22), .inl (T 4, 672, .inl f_120))] hP hD [0, 1, 2, 3, 4, 5, 6, 7, 8, 9, 10] [0, 1, 2, 3, 4, 5, 6, 7, 8, 9, 10] rfl (by decide +kernel) rfl rfl rfl hk1 hP1
        clear hP1 hD1 hFc
        generalize H1 = H at hP hS ⊢
        refine lv_aload_n hx hb dX13_alike_33 rfl (lv_at hl 0 rfl) ?_
        refine va_get (D := D) (ci := 10) (v := .ref (a 17)) (C := RX13) (T := TX13) (N := 45) hx hb hts in_X13_alike_X13 hown hE.1 hP 0 rfl rfl 17 (by decide +kernel) (hts (.fieldLink RX13 47 "ClauseBookModel" "end" "[I") (List.mem_of_getElem? (i := 1) rfl)) (fun _ h9 => h9) rfl dX13_alike_34 ?_
        refine lv_iload_n hx hb dX13_alike_37 rfl (lv_at hl 1 rfl) ?_
        refine va_iald hx hb hE.1 hP 5 0 rfl rfl (by rw [vp_in_iff]; first | omega | (rw [fb_addI (by omega) (by omega)]; omega)) dX13_alike_38 ?_
        refine lv_topi (fun z_121 ez_121 => ?_)
        refine lv_aload_n hx hb dX13_alike_39 rfl (lv_at hl 0 rfl) ?_
        refine va_get (D := D) (ci := 10) (v := .ref (a 17)) (C := RX13) (T := TX13) (N := 45) hx hb hts in_X13_alike_X13 hown hE.1 hP 0 rfl rfl 17 (by decide +kernel) (hts (.fieldLink RX13 47 "ClauseBookModel" "end" "[I") (List.mem_of_getElem? (i := 1) rfl)) (fun _ h9 => h9) rfl dX13_alike_40 ?_
        refine lv_iload_n hx hb dX13_alike_43 rfl (lv_at hl 2 rfl) ?_
        refine va_iald hx hb hE.1 hP 5 0 rfl rfl (by rw [vp_in_iff]; first | omega | (rw [fb_addI (by omega) (by omega)]; omega)) dX13_alike_44 ?_
        refine lv_topi (fun z_122 ez_122 => ?_)
        have hzz_121 : z_121.toInt = (f_115 (x1.toNatClampNeg)).toInt := by rw [ez_121]
        have hzz_122 : z_122.toInt = (f_115 (x2.toNatClampNeg)).toInt := by rw [ez_122]
        refine lv_icmp_ne (tgt := 52) hx hb dX13_alike_45 (by decide +kernel) (fun c_123 => ?_) (fun c_123 => ?_)
        · rw [fa_eq] at c_123
          refine lv_iconst (v := 0) hx hb dX13_alike_52 (by decide +kernel) ?_
          refine lv_istore_n (lv' := [(3, .int 0), (0, .ref h0), (1, .int x1), (2, .int x2)]) hx hb dX13_alike_53 rfl hl (by decide +kernel) rfl (fun ls hl => ?_)
          refine lv_iconst (v := 0) hx hb dX13_alike_54 (by decide +kernel) ?_
          refine lv_istore (lv' := [(4, .int 0), (3, .int 0), (0, .ref h0), (1, .int x1), (2, .int x2)]) hx hb dX13_alike_55 hl (by decide +kernel) rfl (fun ls hl => ?_)
          refine lv_iconst (v := 0) hx hb dX13_alike_57 (by decide +kernel) ?_
          refine lv_istore (lv' := [(5, .int 0), (4, .int 0), (3, .int 0), (0, .ref h0), (1, .int x1), (2, .int x2)]) hx hb dX13_alike_58 hl (by decide +kernel) rfl (fun ls hl => ?_)
          refine loopR (σ := (Int32) × (Int32) × (Int32)) (fun x9 ls => lv_has ls 6 [(5, .int x9.1), (4, .int x9.2.1), (3, .int x9.2.2), (0, .ref h0), (1, .int x1), (2, .int x2)] ∧ ((0 ≤ x9.1.toInt ∧ x9.1.toInt ≤ 28) ∧ isB x9.2.1 ∧ isB x9.2.2 ∧ akI f_118 f_119 f_120 ((f_115 (x1.toNatClampNeg)).toInt = (f_115 (x2.toNatClampNeg)).toInt) (28 * x1.toNatClampNeg) (28 * x2.toNatClampNeg) x9.1.toNatClampNeg x9.2.1 x9.2.2)) (fun x9 => (28 - x9.1.toInt).toNat) (fun x9 ls hI ih => ?_) (0, 0, 0) ls ⟨lv_sub hl [0, 1, 2, 3, 4, 5] rfl, ⟨⟨(by (try dsimp only); decide), (by (try dsimp only); decide)⟩, isB0, isB0, (by (try dsimp only); exact akI_0n (by omega))⟩⟩
          obtain ⟨kk, ov, is⟩ := x9
          obtain ⟨hl, hinv⟩ := hI
          have hl : lv_has ls 6 [(5, .int kk), (4, .int ov), (3, .int is), (0, .ref h0), (1, .int x1), (2, .int x2)] := hl
          have hinv : (0 ≤ kk.toInt ∧ kk.toInt ≤ 28) ∧ isB ov ∧ isB is ∧ akI f_118 f_119 f_120 ((f_115 (x1.toNatClampNeg)).toInt = (f_115 (x2.toNatClampNeg)).toInt) (28 * x1.toNatClampNeg) (28 * x2.toNatClampNeg) kk.toNatClampNeg ov is := hinv
          obtain ⟨hkk, hBo, hBi, hak⟩ := hinv
          have h28x1 : (28 * x1).toInt = 28 * x1.toInt := by rw [fb_mulI (by rw [ti_28]; omega) (by rw [ti_28]; omega), ti_28]
          have h28x2 : (28 * x2).toInt = 28 * x2.toInt := by rw [fb_mulI (by rw [ti_28]; omega) (by rw [ti_28]; omega), ti_28]
          refine lv_iload hx hb dX13_alike_60 (lv_at hl 0 rfl) ?_
          refine lv_bipush (v := 28) hx hb dX13_alike_62 (by decide +kernel) ?_
          refine lv_icmp_ge (tgt := 177) hx hb dX13_alike_64 (by decide +kernel) (fun c_124 => ?_) (fun c_124 => ?_)
          · rw [fa_le] at c_124
            try rw [ti_28] at c_124
            have hk28 : kk.toNatClampNeg = 28 := by have h9 := tn (x := kk) (by omega); omega
            have hak9 : akI f_118 f_119 f_120 ((f_115 (x1.toNatClampNeg)).toInt = (f_115 (x2.toNatClampNeg)).toInt) (28 * x1.toNatClampNeg) (28 * x2.toNatClampNeg) 28 ov is := by rw [hk28] at hak; exact hak
            refine lv_iload hx hb dX13_alike_177 (lv_at hl 1 rfl) ?_
            refine lv_if_eq (tgt := 187) hx hb dX13_alike_179 (by decide +kernel) (fun c_125 => ?_) (fun c_125 => ?_)
            · rw [fa_eq] at c_125
              try rw [ti_0] at c_125
              refine lv_iload_n hx hb dX13_alike_187 rfl (lv_at hl 2 rfl) ?_
              refine lv_if_eq (tgt := 195) hx hb dX13_alike_188 (by decide +kernel) (fun c_126 => ?_) (fun c_126 => ?_)
              · rw [fa_eq] at c_126
                try rw [ti_0] at c_126
                refine lv_iconst (v := 0) hx hb dX13_alike_195 (by decide +kernel) ?_
                exact W.iret hx hb hr (fun t ht hW => ⟨⟨_, (0, l_113, l_114, f_115, f_116, f_117, f_118, f_119, f_120), rfl, ⟨(show isB 0 from isB0), (show ∀ j : Nat, isB (f_120 j) from hZ), (show (0 ≤ x1.toInt ∧ x1.toInt < (q 7).toInt) ∧ 0 ≤ x2.toInt ∧ x2.toInt < (q 7).toInt → ∀ j : Nat, (j : Int) < (q 7).toInt → mesP f8 f9 f10 f11 f_115 f_116 f_117 j from (fun _ => hMEr)), (show alkQ (VALW (lqW (q 0) (q 1) (q 2) (q 3) (q 4) (q 5) (q 6)) f8 f9 f10 f11 f_115) f_115 (q 7) x1 x2 (0 : Int32) from (akI_end (g0 := f_118) (g1 := f_119) (g2 := f_120) (ov := ov) (is := is) ⟨⟨(by omega), (by omega)⟩, (by omega), (by omega)⟩ (fun t s g => ⟨hTV x1 t s g (by omega) (by omega), hTV x2 t s g (by omega) (by omega)⟩) (fun t s g => ⟨(hW1 _ (by have h9 := slN_b (c := x1) (x := (x1 + 1)) (t := t) (k := s) (by have h8 := inc1 (i := x1) (n := 24) (by omega) (by decide +kernel); omega) g; have h8 := inc1 (i := x1) (n := 24) (by omega) (by decide +kernel); omega)), (hW1 _ (by have h9 := slN_b (c := x2) (x := (x2 + 1)) (t := t) (k := s) (by have h8 := inc1 (i := x2) (n := 24) (by omega) (by decide +kernel); omega) g; have h8 := inc1 (i := x2) (n := 24) (by omega) (by decide +kernel); omega))⟩) hak9 (by first | exact Or.inl ⟨by omega, by decide⟩ | exact Or.inr ⟨by omega, Or.inl ⟨by omega, by decide⟩⟩ | exact Or.inr ⟨by omega, Or.inr ⟨by omega, by decide⟩⟩)))⟩, by rw [ht]; exact hP.sub [0, 1, 2, 3, 4, 5, 6, 7, 8, 9, 10] rfl, hD.sub [0, 1, 2, 3, 4, 5, 6, 7, 8, 9, 10] (by decide +kernel) rfl⟩, hS.F ht⟩) hS.2.2 dX13_alike_196
              · rw [fa_eq] at c_126
                try rw [ti_0] at c_126
                refine lv_iconst (v := 1) hx hb dX13_alike_191 (by decide +kernel) ?_
                refine lv_goto (tgt := 196) hx hb dX13_alike_192 (by decide +kernel) ?_
                exact W.iret hx hb hr (fun t ht hW => ⟨⟨_, (0, l_113, l_114, f_115, f_116, f_117, f_118, f_119, f_120), rfl, ⟨(show isB 0 from isB0), (show ∀ j : Nat, isB (f_120 j) from hZ), (show (0 ≤ x1.toInt ∧ x1.toInt < (q 7).toInt) ∧ 0 ≤ x2.toInt ∧ x2.toInt < (q 7).toInt → ∀ j : Nat, (j : Int) < (q 7).toInt → mesP f8 f9 f10 f11 f_115 f_116 f_117 j from (fun _ => hMEr)), (show alkQ (VALW (lqW (q 0) (q 1) (q 2) (q 3) (q 4) (q 5) (q 6)) f8 f9 f10 f11 f_115) f_115 (q 7) x1 x2 (1 : Int32) from (akI_end (g0 := f_118) (g1 := f_119) (g2 := f_120) (ov := ov) (is := is) ⟨⟨(by omega), (by omega)⟩, (by omega), (by omega)⟩ (fun t s g => ⟨hTV x1 t s g (by omega) (by omega), hTV x2 t s g (by omega) (by omega)⟩) (fun t s g => ⟨(hW1 _ (by have h9 := slN_b (c := x1) (x := (x1 + 1)) (t := t) (k := s) (by have h8 := inc1 (i := x1) (n := 24) (by omega) (by decide +kernel); omega) g; have h8 := inc1 (i := x1) (n := 24) (by omega) (by decide +kernel); omega)), (hW1 _ (by have h9 := slN_b (c := x2) (x := (x2 + 1)) (t := t) (k := s) (by have h8 := inc1 (i := x2) (n := 24) (by omega) (by decide +kernel); omega) g; have h8 := inc1 (i := x2) (n := 24) (by omega) (by decide +kernel); omega))⟩) hak9 (by first | exact Or.inl ⟨by omega, by decide⟩ | exact Or.inr ⟨by omega, Or.inl ⟨by omega, by decide⟩⟩ | exact Or.inr ⟨by omega, Or.inr ⟨by omega, by decide⟩⟩)))⟩, by rw [ht]; exact hP.sub [0, 1, 2, 3, 4, 5, 6, 7, 8, 9, 10] rfl, hD.sub [0, 1, 2, 3, 4, 5, 6, 7, 8, 9, 10] (by decide +kernel) rfl⟩, hS.F ht⟩) hS.2.2 dX13_alike_196
            · rw [fa_eq] at c_125
              try rw [ti_0] at c_125
              refine lv_bipush (v := (-5)) hx hb dX13_alike_182 (by decide +kernel) ?_
              refine lv_goto (tgt := 196) hx hb dX13_alike_184 (by decide +kernel) ?_
              exact W.iret hx hb hr (fun t ht hW => ⟨⟨_, (0, l_113, l_114, f_115, f_116, f_117, f_118, f_119, f_120), rfl, ⟨(show isB 0 from isB0), (show ∀ j : Nat, isB (f_120 j) from hZ), (show (0 ≤ x1.toInt ∧ x1.toInt < (q 7).toInt) ∧ 0 ≤ x2.toInt ∧ x2.toInt < (q 7).toInt → ∀ j : Nat, (j : Int) < (q 7).toInt → mesP f8 f9 f10 f11 f_115 f_116 f_117 j from (fun _ => hMEr)), (show alkQ (VALW (lqW (q 0) (q 1) (q 2) (q 3) (q 4) (q 5) (q 6)) f8 f9 f10 f11 f_115) f_115 (q 7) x1 x2 ((-5) : Int32) from (akI_end (g0 := f_118) (g1 := f_119) (g2 := f_120) (ov := ov) (is := is) ⟨⟨(by omega), (by omega)⟩, (by omega), (by omega)⟩ (fun t s g => ⟨hTV x1 t s g (by omega) (by omega), hTV x2 t s g (by omega) (by omega)⟩) (fun t s g => ⟨(hW1 _ (by have h9 := slN_b (c := x1) (x := (x1 + 1)) (t := t) (k := s) (by have h8 := inc1 (i := x1) (n := 24) (by omega) (by decide +kernel); omega) g; have h8 := inc1 (i := x1) (n := 24) (by omega) (by decide +kernel); omega)), (hW1 _ (by have h9 := slN_b (c := x2) (x := (x2 + 1)) (t := t) (k := s) (by have h8 := inc1 (i := x2) (n := 24) (by omega) (by decide +kernel); omega) g; have h8 := inc1 (i := x2) (n := 24) (by omega) (by decide +kernel); omega))⟩) hak9 (by first | exact Or.inl ⟨by omega, by decide⟩ | exact Or.inr ⟨by omega, Or.inl ⟨by omega, by decide⟩⟩ | exact Or.inr ⟨by omega, Or.inr ⟨by omega, by decide⟩⟩)))⟩, by rw [ht]; exact hP.sub [0, 1, 2, 3, 4, 5, 6, 7, 8, 9, 10] rfl, hD.sub [0, 1, 2, 3, 4, 5, 6, 7, 8, 9, 10] (by decide +kernel) rfl⟩, hS.F ht⟩) hS.2.2 dX13_alike_196
          · rw [fa_le] at c_124
            try rw [ti_28] at c_124
            have hix1 : ((28 * x1) + kk).toNatClampNeg = 28 * x1.toNatClampNeg + kk.toNatClampNeg := ak_ix (by omega) (by omega)
            have hix2 : ((28 * x2) + kk).toNatClampNeg = 28 * x2.toNatClampNeg + kk.toNatClampNeg := ak_ix (by omega) (by omega)
            refine lv_iload hx hb dX13_alike_67 (lv_at hl 1 rfl) ?_
            refine lv_aload_n hx hb dX13_alike_69 rfl (lv_at hl 3 rfl) ?_
            refine va_get (D := D) (ci := 10) (v := .ref (a 22)) (C := RX13) (T := TX13) (N := 45) hx hb hts in_X13_alike_X13 hown hE.1 hP 0 rfl rfl 22 (by decide +kernel) (hts (.fieldLink RX13 63 "ClauseBookModel" "worthMuch" "[Z") (List.mem_of_getElem? (i := 2) rfl)) (fun _ h9 => h9) rfl dX13_alike_70 ?_
            refine lv_bipush (v := 28) hx hb dX13_alike_73 (by decide +kernel) ?_
            refine lv_iload_n hx hb dX13_alike_75 rfl (lv_at hl 4 rfl) ?_
            refine lv_imul hx hb dX13_alike_76 ?_
            refine lv_iload hx hb dX13_alike_77 (lv_at hl 0 rfl) ?_
            refine lv_iadd hx hb dX13_alike_79 ?_
            refine va_zald hx hb hE.1 hP 10 4 rfl rfl (by rw [vp_in_iff]; first | omega | (rw [fb_addI (by omega) (by omega)]; omega)) dX13_alike_80 ?_
            refine lv_topi (fun z_127 ez_127 => ?_)
            have hxz_127 : z_127 = f_120 (28 * x1.toNatClampNeg + kk.toNatClampNeg) := by rw [ez_127, hix1]
            refine lv_if_ne (tgt := 99) hx hb dX13_alike_81 (by decide +kernel) (fun c_128 => ?_) (fun c_128 => ?_)
            · rw [fa_eq] at c_128
              try rw [ti_0] at c_128
              refine lv_iconst (v := 1) hx hb dX13_alike_99 (by decide +kernel) ?_
              refine lv_goto (tgt := 104) hx hb dX13_alike_100 (by decide +kernel) ?_
              refine lv_ior hx hb dX13_alike_104 ?_
              refine lv_topi (fun z_129 ez_129 => ?_)
              have hBz_129 : isB z_129 := by rw [ez_129]; exact isB.or hBo isB1
              have hoz_129 : z_129.toInt = 0 ↔ (ov.toInt = 0 ∧ (1 : Int32).toInt = 0) := by rw [ez_129]; exact or_iff hBo isB1
              refine lv_istore (lv' := [(4, .int z_129), (5, .int kk), (3, .int is), (0, .ref h0), (1, .int x1), (2, .int x2)]) hx hb dX13_alike_105 hl (by decide +kernel) rfl (fun ls hl => ?_)
              refine lv_iload_n hx hb dX13_alike_107 rfl (lv_at hl 2 rfl) ?_
              refine lv_aload_n hx hb dX13_alike_108 rfl (lv_at hl 3 rfl) ?_
              refine va_get (D := D) (ci := 10) (v := .ref (a 20)) (C := RX13) (T := TX13) (N := 45) hx hb hts in_X13_alike_X13 hown hE.1 hP 0 rfl rfl 20 (by decide +kernel) (hts (.fieldLink RX13 56 "ClauseBookModel" "worthAbove" "[J") (List.mem_of_getElem? (i := 3) rfl)) (fun _ h9 => h9) rfl dX13_alike_109 ?_
              refine lv_bipush (v := 28) hx hb dX13_alike_112 (by decide +kernel) ?_
              refine lv_iload_n hx hb dX13_alike_114 rfl (lv_at hl 4 rfl) ?_
              refine lv_imul hx hb dX13_alike_115 ?_
              refine lv_iload hx hb dX13_alike_116 (lv_at hl 1 rfl) ?_
              refine lv_iadd hx hb dX13_alike_118 ?_
              refine va_lald hx hb hE.1 hP 8 1 rfl rfl (by rw [vp_in_iff]; first | omega | (rw [fb_addI (by omega) (by omega)]; omega)) dX13_alike_119 ?_
              refine lv_topl (fun z_130 ez_130 => ?_)
              have hxz_130 : z_130 = f_118 (28 * x1.toNatClampNeg + kk.toNatClampNeg) := by rw [ez_130, hix1]
              refine lv_aload_n hx hb dX13_alike_120 rfl (lv_at hl 3 rfl) ?_
              refine va_get (D := D) (ci := 10) (v := .ref (a 20)) (C := RX13) (T := TX13) (N := 45) hx hb hts in_X13_alike_X13 hown hE.1 hP 0 rfl rfl 20 (by decide +kernel) (hts (.fieldLink RX13 56 "ClauseBookModel" "worthAbove" "[J") (List.mem_of_getElem? (i := 3) rfl)) (fun _ h9 => h9) rfl dX13_alike_121 ?_
              refine lv_bipush (v := 28) hx hb dX13_alike_124 (by decide +kernel) ?_
              refine lv_iload_n hx hb dX13_alike_126 rfl (lv_at hl 5 rfl) ?_
              refine lv_imul hx hb dX13_alike_127 ?_
              refine lv_iload hx hb dX13_alike_128 (lv_at hl 1 rfl) ?_
              refine lv_iadd hx hb dX13_alike_130 ?_
              refine va_lald hx hb hE.1 hP 8 1 rfl rfl (by rw [vp_in_iff]; first | omega | (rw [fb_addI (by omega) (by omega)]; omega)) dX13_alike_131 ?_
              refine lv_topl (fun z_131 ez_131 => ?_)
              have hxz_131 : z_131 = f_118 (28 * x2.toNatClampNeg + kk.toNatClampNeg) := by rw [ez_131, hix2]
              refine W.lcmp hx hb dX13_alike_132 ?_
              refine lv_if_ne (tgt := 168) hx hb dX13_alike_133 (by decide +kernel) (fun c_132 => ?_) (fun c_132 => ?_)
              · rw [lcmp_eq] at c_132
                refine lv_iconst (v := 0) hx hb dX13_alike_168 (by decide +kernel) ?_
                refine lv_iand hx hb dX13_alike_169 ?_
                refine lv_topi (fun z_133 ez_133 => ?_)
                have hBz_133 : isB z_133 := by rw [ez_133]; rw [isBand0 hBi]; exact isB0
                refine lv_istore_n (lv' := [(3, .int z_133), (4, .int z_129), (5, .int kk), (0, .ref h0), (1, .int x1), (2, .int x2)]) hx hb dX13_alike_170 rfl hl (by decide +kernel) rfl (fun ls hl => ?_)
                obtain ⟨z_134, ez_134⟩ : ∃ y : Int32, y = kk + 1 := ⟨_, rfl⟩
                refine lv_iinc (v := z_134) (lv' := [(5, .int z_134), (3, .int z_133), (4, .int z_129), (0, .ref h0), (1, .int x1), (2, .int x2)]) hx hb dX13_alike_171 hl (k := 2) rfl (by rw [ez_134]; rfl) (by decide +kernel) rfl (fun ls hl => ?_)
                refine lv_goto (tgt := 60) hx hb dX13_alike_174 (by decide +kernel) ?_
                have hi9 : z_134.toInt = kk.toInt + 1 := by rw [ez_134]; exact inc1 (i := kk) (n := 1000) (by omega) (by decide +kernel)
                exact ih (z_134, z_129, z_133) ls ⟨lv_sub hl [0, 2, 1, 3, 4, 5] rfl, ⟨⟨(by (try dsimp only); omega), (by (try dsimp only); omega)⟩, hBz_129, hBz_133, (by (try dsimp only); rw [tnS (by omega) hi9]; exact akI_step hak (Or.inr ⟨(fun h8 => by have h7 := (hoz_129.1 h8).2; rw [ti_1] at h7; omega), Or.inr (Or.inl (by rw [← hxz_127]; omega))⟩) (Or.inr ⟨(by rw [ez_133, isBand0 hBi]; decide), (fun h9 => by have h8 := h9.1; rw [← hxz_130, ← hxz_131] at h8; have h7 := congrArg Int64.toInt h8; omega)⟩))⟩⟩ (by (try dsimp only); omega)
              · rw [lcmp_eq] at c_132
                refine lv_aload_n hx hb dX13_alike_136 rfl (lv_at hl 3 rfl) ?_
                refine va_get (D := D) (ci := 10) (v := .ref (a 21)) (C := RX13) (T := TX13) (N := 45) hx hb hts in_X13_alike_X13 hown hE.1 hP 0 rfl rfl 21 (by decide +kernel) (hts (.fieldLink RX13 60 "ClauseBookModel" "worthBelow" "[J") (List.mem_of_getElem? (i := 4) rfl)) (fun _ h9 => h9) rfl dX13_alike_137 ?_
                refine lv_bipush (v := 28) hx hb dX13_alike_140 (by decide +kernel) ?_
                refine lv_iload_n hx hb dX13_alike_142 rfl (lv_at hl 4 rfl) ?_
                refine lv_imul hx hb dX13_alike_143 ?_
                refine lv_iload hx hb dX13_alike_144 (lv_at hl 1 rfl) ?_
                refine lv_iadd hx hb dX13_alike_146 ?_
                refine va_lald hx hb hE.1 hP 9 1 rfl rfl (by rw [vp_in_iff]; first | omega | (rw [fb_addI (by omega) (by omega)]; omega)) dX13_alike_147 ?_
                refine lv_topl (fun z_135 ez_135 => ?_)
                have hxz_135 : z_135 = f_119 (28 * x1.toNatClampNeg + kk.toNatClampNeg) := by rw [ez_135, hix1]
                refine lv_aload_n hx hb dX13_alike_148 rfl (lv_at hl 3 rfl) ?_
                refine va_get (D := D) (ci := 10) (v := .ref (a 21)) (C := RX13) (T := TX13) (N := 45) hx hb hts in_X13_alike_X13 hown hE.1 hP 0 rfl rfl 21 (by decide +kernel) (hts (.fieldLink RX13 60 "ClauseBookModel" "worthBelow" "[J") (List.mem_of_getElem? (i := 4) rfl)) (fun _ h9 => h9) rfl dX13_alike_149 ?_
                refine lv_bipush (v := 28) hx hb dX13_alike_152 (by decide +kernel) ?_
                refine lv_iload_n hx hb dX13_alike_154 rfl (lv_at hl 5 rfl) ?_
                refine lv_imul hx hb dX13_alike_155 ?_
                refine lv_iload hx hb dX13_alike_156 (lv_at hl 1 rfl) ?_
                refine lv_iadd hx hb dX13_alike_158 ?_
                refine va_lald hx hb hE.1 hP 9 1 rfl rfl (by rw [vp_in_iff]; first | omega | (rw [fb_addI (by omega) (by omega)]; omega)) dX13_alike_159 ?_
                refine lv_topl (fun z_136 ez_136 => ?_)
                have hxz_136 : z_136 = f_119 (28 * x2.toNatClampNeg + kk.toNatClampNeg) := by rw [ez_136, hix2]
                refine W.lcmp hx hb dX13_alike_160 ?_
                refine lv_if_ne (tgt := 168) hx hb dX13_alike_161 (by decide +kernel) (fun c_137 => ?_) (fun c_137 => ?_)
                · rw [lcmp_eq] at c_137
                  refine lv_iconst (v := 0) hx hb dX13_alike_168 (by decide +kernel) ?_
                  refine lv_iand hx hb dX13_alike_169 ?_
                  refine lv_topi (fun z_138 ez_138 => ?_)
                  have hBz_138 : isB z_138 := by rw [ez_138]; rw [isBand0 hBi]; exact isB0
                  refine lv_istore_n (lv' := [(3, .int z_138), (4, .int z_129), (5, .int kk), (0, .ref h0), (1, .int x1), (2, .int x2)]) hx hb dX13_alike_170 rfl hl (by decide +kernel) rfl (fun ls hl => ?_)
                  obtain ⟨z_139, ez_139⟩ : ∃ y : Int32, y = kk + 1 := ⟨_, rfl⟩
                  refine lv_iinc (v := z_139) (lv' := [(5, .int z_139), (3, .int z_138), (4, .int z_129), (0, .ref h0), (1, .int x1), (2, .int x2)]) hx hb dX13_alike_171 hl (k := 2) rfl (by rw [ez_139]; rfl) (by decide +kernel) rfl (fun ls hl => ?_)
                  refine lv_goto (tgt := 60) hx hb dX13_alike_174 (by decide +kernel) ?_
                  have hi9 : z_139.toInt = kk.toInt + 1 := by rw [ez_139]; exact inc1 (i := kk) (n := 1000) (by omega) (by decide +kernel)
                  exact ih (z_139, z_129, z_138) ls ⟨lv_sub hl [0, 2, 1, 3, 4, 5] rfl, ⟨⟨(by (try dsimp only); omega), (by (try dsimp only); omega)⟩, hBz_129, hBz_138, (by (try dsimp only); rw [tnS (by omega) hi9]; exact akI_step hak (Or.inr ⟨(fun h8 => by have h7 := (hoz_129.1 h8).2; rw [ti_1] at h7; omega), Or.inr (Or.inl (by rw [← hxz_127]; omega))⟩) (Or.inr ⟨(by rw [ez_138, isBand0 hBi]; decide), (fun h9 => by have h8 := h9.2; rw [← hxz_135, ← hxz_136] at h8; have h7 := congrArg Int64.toInt h8; omega)⟩))⟩⟩ (by (try dsimp only); omega)
                · rw [lcmp_eq] at c_137
                  refine lv_iconst (v := 1) hx hb dX13_alike_164 (by decide +kernel) ?_
                  refine lv_goto (tgt := 169) hx hb dX13_alike_165 (by decide +kernel) ?_
                  refine lv_iand hx hb dX13_alike_169 ?_
                  refine lv_topi (fun z_140 ez_140 => ?_)
                  have hBz_140 : isB z_140 := by rw [ez_140]; rw [isBand1 hBi]; exact hBi
                  refine lv_istore_n (lv' := [(3, .int z_140), (4, .int z_129), (5, .int kk), (0, .ref h0), (1, .int x1), (2, .int x2)]) hx hb dX13_alike_170 rfl hl (by decide +kernel) rfl (fun ls hl => ?_)
                  obtain ⟨z_141, ez_141⟩ : ∃ y : Int32, y = kk + 1 := ⟨_, rfl⟩
                  refine lv_iinc (v := z_141) (lv' := [(5, .int z_141), (3, .int z_140), (4, .int z_129), (0, .ref h0), (1, .int x1), (2, .int x2)]) hx hb dX13_alike_171 hl (k := 2) rfl (by rw [ez_141]; rfl) (by decide +kernel) rfl (fun ls hl => ?_)
                  refine lv_goto (tgt := 60) hx hb dX13_alike_174 (by decide +kernel) ?_
                  have hi9 : z_141.toInt = kk.toInt + 1 := by rw [ez_141]; exact inc1 (i := kk) (n := 1000) (by omega) (by decide +kernel)
                  exact ih (z_141, z_129, z_140) ls ⟨lv_sub hl [0, 2, 1, 3, 4, 5] rfl, ⟨⟨(by (try dsimp only); omega), (by (try dsimp only); omega)⟩, hBz_129, hBz_140, (by (try dsimp only); rw [tnS (by omega) hi9]; exact akI_step hak (Or.inr ⟨(fun h8 => by have h7 := (hoz_129.1 h8).2; rw [ti_1] at h7; omega), Or.inr (Or.inl (by rw [← hxz_127]; omega))⟩) (Or.inl ⟨(by rw [ez_140, isBand1 hBi]), (by rw [← hxz_130, ← hxz_131]; exact Int64.toInt_inj.1 (by omega)), (by rw [← hxz_135, ← hxz_136]; exact Int64.toInt_inj.1 (by omega))⟩))⟩⟩ (by (try dsimp only); omega)
            · rw [fa_eq] at c_128
              try rw [ti_0] at c_128
              refine lv_aload_n hx hb dX13_alike_84 rfl (lv_at hl 3 rfl) ?_
              refine va_get (D := D) (ci := 10) (v := .ref (a 22)) (C := RX13) (T := TX13) (N := 45) hx hb hts in_X13_alike_X13 hown hE.1 hP 0 rfl rfl 22 (by decide +kernel) (hts (.fieldLink RX13 63 "ClauseBookModel" "worthMuch" "[Z") (List.mem_of_getElem? (i := 2) rfl)) (fun _ h9 => h9) rfl dX13_alike_85 ?_
              refine lv_bipush (v := 28) hx hb dX13_alike_88 (by decide +kernel) ?_
              refine lv_iload_n hx hb dX13_alike_90 rfl (lv_at hl 5 rfl) ?_
              refine lv_imul hx hb dX13_alike_91 ?_
              refine lv_iload hx hb dX13_alike_92 (lv_at hl 0 rfl) ?_
              refine lv_iadd hx hb dX13_alike_94 ?_
              refine va_zald hx hb hE.1 hP 10 4 rfl rfl (by rw [vp_in_iff]; first | omega | (rw [fb_addI (by omega) (by omega)]; omega)) dX13_alike_95 ?_
              refine lv_topi (fun z_142 ez_142 => ?_)
              have hxz_142 : z_142 = f_120 (28 * x2.toNatClampNeg + kk.toNatClampNeg) := by rw [ez_142, hix2]
              refine lv_if_eq (tgt := 103) hx hb dX13_alike_96 (by decide +kernel) (fun c_143 => ?_) (fun c_143 => ?_)
              · rw [fa_eq] at c_143
                try rw [ti_0] at c_143
                refine lv_iconst (v := 0) hx hb dX13_alike_103 (by decide +kernel) ?_
                refine lv_ior hx hb dX13_alike_104 ?_
                refine lv_topi (fun z_144 ez_144 => ?_)
                have hBz_144 : isB z_144 := by rw [ez_144]; exact isB.or hBo isB0
                have hoz_144 : z_144.toInt = 0 ↔ (ov.toInt = 0 ∧ (0 : Int32).toInt = 0) := by rw [ez_144]; exact or_iff hBo isB0
                refine lv_istore (lv' := [(4, .int z_144), (5, .int kk), (3, .int is), (0, .ref h0), (1, .int x1), (2, .int x2)]) hx hb dX13_alike_105 hl (by decide +kernel) rfl (fun ls hl => ?_)
                refine lv_iload_n hx hb dX13_alike_107 rfl (lv_at hl 2 rfl) ?_
                refine lv_aload_n hx hb dX13_alike_108 rfl (lv_at hl 3 rfl) ?_
                refine va_get (D := D) (ci := 10) (v := .ref (a 20)) (C := RX13) (T := TX13) (N := 45) hx hb hts in_X13_alike_X13 hown hE.1 hP 0 rfl rfl 20 (by decide +kernel) (hts (.fieldLink RX13 56 "ClauseBookModel" "worthAbove" "[J") (List.mem_of_getElem? (i := 3) rfl)) (fun _ h9 => h9) rfl dX13_alike_109 ?_
                refine lv_bipush (v := 28) hx hb dX13_alike_112 (by decide +kernel) ?_
                refine lv_iload_n hx hb dX13_alike_114 rfl (lv_at hl 4 rfl) ?_
                refine lv_imul hx hb dX13_alike_115 ?_
                refine lv_iload hx hb dX13_alike_116 (lv_at hl 1 rfl) ?_
                refine lv_iadd hx hb dX13_alike_118 ?_
                refine va_lald hx hb hE.1 hP 8 1 rfl rfl (by rw [vp_in_iff]; first | omega | (rw [fb_addI (by omega) (by omega)]; omega)) dX13_alike_119 ?_
                refine lv_topl (fun z_145 ez_145 => ?_)
                have hxz_145 : z_145 = f_118 (28 * x1.toNatClampNeg + kk.toNatClampNeg) := by rw [ez_145, hix1]
                refine lv_aload_n hx hb dX13_alike_120 rfl (lv_at hl 3 rfl) ?_
                refine va_get (D := D) (ci := 10) (v := .ref (a 20)) (C := RX13) (T := TX13) (N := 45) hx hb hts in_X13_alike_X13 hown hE.1 hP 0 rfl rfl 20 (by decide +kernel) (hts (.fieldLink RX13 56 "ClauseBookModel" "worthAbove" "[J") (List.mem_of_getElem? (i := 3) rfl)) (fun _ h9 => h9) rfl dX13_alike_121 ?_
                refine lv_bipush (v := 28) hx hb dX13_alike_124 (by decide +kernel) ?_
                refine lv_iload_n hx hb dX13_alike_126 rfl (lv_at hl 5 rfl) ?_
                refine lv_imul hx hb dX13_alike_127 ?_
                refine lv_iload hx hb dX13_alike_128 (lv_at hl 1 rfl) ?_
                refine lv_iadd hx hb dX13_alike_130 ?_
                refine va_lald hx hb hE.1 hP 8 1 rfl rfl (by rw [vp_in_iff]; first | omega | (rw [fb_addI (by omega) (by omega)]; omega)) dX13_alike_131 ?_
                refine lv_topl (fun z_146 ez_146 => ?_)
                have hxz_146 : z_146 = f_118 (28 * x2.toNatClampNeg + kk.toNatClampNeg) := by rw [ez_146, hix2]
                refine W.lcmp hx hb dX13_alike_132 ?_
                refine lv_if_ne (tgt := 168) hx hb dX13_alike_133 (by decide +kernel) (fun c_147 => ?_) (fun c_147 => ?_)
                · rw [lcmp_eq] at c_147
                  refine lv_iconst (v := 0) hx hb dX13_alike_168 (by decide +kernel) ?_
                  refine lv_iand hx hb dX13_alike_169 ?_
                  refine lv_topi (fun z_148 ez_148 => ?_)
                  have hBz_148 : isB z_148 := by rw [ez_148]; rw [isBand0 hBi]; exact isB0
                  refine lv_istore_n (lv' := [(3, .int z_148), (4, .int z_144), (5, .int kk), (0, .ref h0), (1, .int x1), (2, .int x2)]) hx hb dX13_alike_170 rfl hl (by decide +kernel) rfl (fun ls hl => ?_)
                  obtain ⟨z_149, ez_149⟩ : ∃ y : Int32, y = kk + 1 := ⟨_, rfl⟩
                  refine lv_iinc (v := z_149) (lv' := [(5, .int z_149), (3, .int z_148), (4, .int z_144), (0, .ref h0), (1, .int x1), (2, .int x2)]) hx hb dX13_alike_171 hl (k := 2) rfl (by rw [ez_149]; rfl) (by decide +kernel) rfl (fun ls hl => ?_)
                  refine lv_goto (tgt := 60) hx hb dX13_alike_174 (by decide +kernel) ?_
                  have hi9 : z_149.toInt = kk.toInt + 1 := by rw [ez_149]; exact inc1 (i := kk) (n := 1000) (by omega) (by decide +kernel)
                  exact ih (z_149, z_144, z_148) ls ⟨lv_sub hl [0, 2, 1, 3, 4, 5] rfl, ⟨⟨(by (try dsimp only); omega), (by (try dsimp only); omega)⟩, hBz_144, hBz_148, (by (try dsimp only); rw [tnS (by omega) hi9]; exact akI_step hak (by have h8 := hoz_144; rw [ti_0] at h8; rcases Classical.em (ov.toInt = 0) with h7 | h7 <;> first | exact Or.inl ⟨h8.2 ⟨h7, rfl⟩, h7, (by rw [← hxz_127]; omega), (by rw [← hxz_142]; omega)⟩ | exact Or.inr ⟨fun h6 => h7 (h8.1 h6).1, Or.inl h7⟩) (Or.inr ⟨(by rw [ez_148, isBand0 hBi]; decide), (fun h9 => by have h8 := h9.1; rw [← hxz_145, ← hxz_146] at h8; have h7 := congrArg Int64.toInt h8; omega)⟩))⟩⟩ (by (try dsimp only); omega)
                · rw [lcmp_eq] at c_147
                  refine lv_aload_n hx hb dX13_alike_136 rfl (lv_at hl 3 rfl) ?_
                  refine va_get (D := D) (ci := 10) (v := .ref (a 21)) (C := RX13) (T := TX13) (N := 45) hx hb hts in_X13_alike_X13 hown hE.1 hP 0 rfl rfl 21 (by decide +kernel) (hts (.fieldLink RX13 60 "ClauseBookModel" "worthBelow" "[J") (List.mem_of_getElem? (i := 4) rfl)) (fun _ h9 => h9) rfl dX13_alike_137 ?_
                  refine lv_bipush (v := 28) hx hb dX13_alike_140 (by decide +kernel) ?_
                  refine lv_iload_n hx hb dX13_alike_142 rfl (lv_at hl 4 rfl) ?_
                  refine lv_imul hx hb dX13_alike_143 ?_
                  refine lv_iload hx hb dX13_alike_144 (lv_at hl 1 rfl) ?_
                  refine lv_iadd hx hb dX13_alike_146 ?_
                  refine va_lald hx hb hE.1 hP 9 1 rfl rfl (by rw [vp_in_iff]; first | omega | (rw [fb_addI (by omega) (by omega)]; omega)) dX13_alike_147 ?_
                  refine lv_topl (fun z_150 ez_150 => ?_)
                  have hxz_150 : z_150 = f_119 (28 * x1.toNatClampNeg + kk.toNatClampNeg) := by rw [ez_150, hix1]
                  refine lv_aload_n hx hb dX13_alike_148 rfl (lv_at hl 3 rfl) ?_
                  refine va_get (D := D) (ci := 10) (v := .ref (a 21)) (C := RX13) (T := TX13) (N := 45) hx hb hts in_X13_alike_X13 hown hE.1 hP 0 rfl rfl 21 (by decide +kernel) (hts (.fieldLink RX13 60 "ClauseBookModel" "worthBelow" "[J") (List.mem_of_getElem? (i := 4) rfl)) (fun _ h9 => h9) rfl dX13_alike_149 ?_
                  refine lv_bipush (v := 28) hx hb dX13_alike_152 (by decide +kernel) ?_
                  refine lv_iload_n hx hb dX13_alike_154 rfl (lv_at hl 5 rfl) ?_
                  refine lv_imul hx hb dX13_alike_155 ?_
                  refine lv_iload hx hb dX13_alike_156 (lv_at hl 1 rfl) ?_
                  refine lv_iadd hx hb dX13_alike_158 ?_
                  refine va_lald hx hb hE.1 hP 9 1 rfl rfl (by rw [vp_in_iff]; first | omega | (rw [fb_addI (by omega) (by omega)]; omega)) dX13_alike_159 ?_
                  refine lv_topl (fun z_151 ez_151 => ?_)
                  have hxz_151 : z_151 = f_119 (28 * x2.toNatClampNeg + kk.toNatClampNeg) := by rw [ez_151, hix2]
                  refine W.lcmp hx hb dX13_alike_160 ?_
                  refine lv_if_ne (tgt := 168) hx hb dX13_alike_161 (by decide +kernel) (fun c_152 => ?_) (fun c_152 => ?_)
                  · rw [lcmp_eq] at c_152
                    refine lv_iconst (v := 0) hx hb dX13_alike_168 (by decide +kernel) ?_
                    refine lv_iand hx hb dX13_alike_169 ?_
                    refine lv_topi (fun z_153 ez_153 => ?_)
                    have hBz_153 : isB z_153 := by rw [ez_153]; rw [isBand0 hBi]; exact isB0
                    refine lv_istore_n (lv' := [(3, .int z_153), (4, .int z_144), (5, .int kk), (0, .ref h0), (1, .int x1), (2, .int x2)]) hx hb dX13_alike_170 rfl hl (by decide +kernel) rfl (fun ls hl => ?_)
                    obtain ⟨z_154, ez_154⟩ : ∃ y : Int32, y = kk + 1 := ⟨_, rfl⟩
                    refine lv_iinc (v := z_154) (lv' := [(5, .int z_154), (3, .int z_153), (4, .int z_144), (0, .ref h0), (1, .int x1), (2, .int x2)]) hx hb dX13_alike_171 hl (k := 2) rfl (by rw [ez_154]; rfl) (by decide +kernel) rfl (fun ls hl => ?_)
                    refine lv_goto (tgt := 60) hx hb dX13_alike_174 (by decide +kernel) ?_
                    have hi9 : z_154.toInt = kk.toInt + 1 := by rw [ez_154]; exact inc1 (i := kk) (n := 1000) (by omega) (by decide +kernel)
                    exact ih (z_154, z_144, z_153) ls ⟨lv_sub hl [0, 2, 1, 3, 4, 5] rfl, ⟨⟨(by (try dsimp only); omega), (by (try dsimp only); omega)⟩, hBz_144, hBz_153, (by (try dsimp only); rw [tnS (by omega) hi9]; exact akI_step hak (by have h8 := hoz_144; rw [ti_0] at h8; rcases Classical.em (ov.toInt = 0) with h7 | h7 <;> first | exact Or.inl ⟨h8.2 ⟨h7, rfl⟩, h7, (by rw [← hxz_127]; omega), (by rw [← hxz_142]; omega)⟩ | exact Or.inr ⟨fun h6 => h7 (h8.1 h6).1, Or.inl h7⟩) (Or.inr ⟨(by rw [ez_153, isBand0 hBi]; decide), (fun h9 => by have h8 := h9.2; rw [← hxz_150, ← hxz_151] at h8; have h7 := congrArg Int64.toInt h8; omega)⟩))⟩⟩ (by (try dsimp only); omega)
                  · rw [lcmp_eq] at c_152
                    refine lv_iconst (v := 1) hx hb dX13_alike_164 (by decide +kernel) ?_
                    refine lv_goto (tgt := 169) hx hb dX13_alike_165 (by decide +kernel) ?_
                    refine lv_iand hx hb dX13_alike_169 ?_
                    refine lv_topi (fun z_155 ez_155 => ?_)
                    have hBz_155 : isB z_155 := by rw [ez_155]; rw [isBand1 hBi]; exact hBi
                    refine lv_istore_n (lv' := [(3, .int z_155), (4, .int z_144), (5, .int kk), (0, .ref h0), (1, .int x1), (2, .int x2)]) hx hb dX13_alike_170 rfl hl (by decide +kernel) rfl (fun ls hl => ?_)
                    obtain ⟨z_156, ez_156⟩ : ∃ y : Int32, y = kk + 1 := ⟨_, rfl⟩
                    refine lv_iinc (v := z_156) (lv' := [(5, .int z_156), (3, .int z_155), (4, .int z_144), (0, .ref h0), (1, .int x1), (2, .int x2)]) hx hb dX13_alike_171 hl (k := 2) rfl (by rw [ez_156]; rfl) (by decide +kernel) rfl (fun ls hl => ?_)
                    refine lv_goto (tgt := 60) hx hb dX13_alike_174 (by decide +kernel) ?_
                    have hi9 : z_156.toInt = kk.toInt + 1 := by rw [ez_156]; exact inc1 (i := kk) (n := 1000) (by omega) (by decide +kernel)
                    exact ih (z_156, z_144, z_155) ls ⟨lv_sub hl [0, 2, 1, 3, 4, 5] rfl, ⟨⟨(by (try dsimp only); omega), (by (try dsimp only); omega)⟩, hBz_144, hBz_155, (by (try dsimp only); rw [tnS (by omega) hi9]; exact akI_step hak (by have h8 := hoz_144; rw [ti_0] at h8; rcases Classical.em (ov.toInt = 0) with h7 | h7 <;> first | exact Or.inl ⟨h8.2 ⟨h7, rfl⟩, h7, (by rw [← hxz_127]; omega), (by rw [← hxz_142]; omega)⟩ | exact Or.inr ⟨fun h6 => h7 (h8.1 h6).1, Or.inl h7⟩) (Or.inl ⟨(by rw [ez_155, isBand1 hBi]), (by rw [← hxz_145, ← hxz_146]; exact Int64.toInt_inj.1 (by omega)), (by rw [← hxz_150, ← hxz_151]; exact Int64.toInt_inj.1 (by omega))⟩))⟩⟩ (by (try dsimp only); omega)
              · rw [fa_eq] at c_143
                try rw [ti_0] at c_143
                refine lv_iconst (v := 1) hx hb dX13_alike_99 (by decide +kernel) ?_
                refine lv_goto (tgt := 104) hx hb dX13_alike_100 (by decide +kernel) ?_
                refine lv_ior hx hb dX13_alike_104 ?_
                refine lv_topi (fun z_157 ez_157 => ?_)
                have hBz_157 : isB z_157 := by rw [ez_157]; exact isB.or hBo isB1
                have hoz_157 : z_157.toInt = 0 ↔ (ov.toInt = 0 ∧ (1 : Int32).toInt = 0) := by rw [ez_157]; exact or_iff hBo isB1
                refine lv_istore (lv' := [(4, .int z_157), (5, .int kk), (3, .int is), (0, .ref h0), (1, .int x1), (2, .int x2)]) hx hb dX13_alike_105 hl (by decide +kernel) rfl (fun ls hl => ?_)
                refine lv_iload_n hx hb dX13_alike_107 rfl (lv_at hl 2 rfl) ?_
                refine lv_aload_n hx hb dX13_alike_108 rfl (lv_at hl 3 rfl) ?_
                refine va_get (D := D) (ci := 10) (v := .ref (a 20)) (C := RX13) (T := TX13) (N := 45) hx hb hts in_X13_alike_X13 hown hE.1 hP 0 rfl rfl 20 (by decide +kernel) (hts (.fieldLink RX13 56 "ClauseBookModel" "worthAbove" "[J") (List.mem_of_getElem? (i := 3) rfl)) (fun _ h9 => h9) rfl dX13_alike_109 ?_
                refine lv_bipush (v := 28) hx hb dX13_alike_112 (by decide +kernel) ?_
                refine lv_iload_n hx hb dX13_alike_114 rfl (lv_at hl 4 rfl) ?_
                refine lv_imul hx hb dX13_alike_115 ?_
                refine lv_iload hx hb dX13_alike_116 (lv_at hl 1 rfl) ?_
                refine lv_iadd hx hb dX13_alike_118 ?_
                refine va_lald hx hb hE.1 hP 8 1 rfl rfl (by rw [vp_in_iff]; first | omega | (rw [fb_addI (by omega) (by omega)]; omega)) dX13_alike_119 ?_
                refine lv_topl (fun z_158 ez_158 => ?_)
                have hxz_158 : z_158 = f_118 (28 * x1.toNatClampNeg + kk.toNatClampNeg) := by rw [ez_158, hix1]
                refine lv_aload_n hx hb dX13_alike_120 rfl (lv_at hl 3 rfl) ?_
                refine va_get (D := D) (ci := 10) (v := .ref (a 20)) (C := RX13) (T := TX13) (N := 45) hx hb hts in_X13_alike_X13 hown hE.1 hP 0 rfl rfl 20 (by decide +kernel) (hts (.fieldLink RX13 56 "ClauseBookModel" "worthAbove" "[J") (List.mem_of_getElem? (i := 3) rfl)) (fun _ h9 => h9) rfl dX13_alike_121 ?_
                refine lv_bipush (v := 28) hx hb dX13_alike_124 (by decide +kernel) ?_
                refine lv_iload_n hx hb dX13_alike_126 rfl (lv_at hl 5 rfl) ?_
                refine lv_imul hx hb dX13_alike_127 ?_
                refine lv_iload hx hb dX13_alike_128 (lv_at hl 1 rfl) ?_
                refine lv_iadd hx hb dX13_alike_130 ?_
                refine va_lald hx hb hE.1 hP 8 1 rfl rfl (by rw [vp_in_iff]; first | omega | (rw [fb_addI (by omega) (by omega)]; omega)) dX13_alike_131 ?_
                refine lv_topl (fun z_159 ez_159 => ?_)
                have hxz_159 : z_159 = f_118 (28 * x2.toNatClampNeg + kk.toNatClampNeg) := by rw [ez_159, hix2]
                refine W.lcmp hx hb dX13_alike_132 ?_
                refine lv_if_ne (tgt := 168) hx hb dX13_alike_133 (by decide +kernel) (fun c_160 => ?_) (fun c_160 => ?_)
                · rw [lcmp_eq] at c_160
                  refine lv_iconst (v := 0) hx hb dX13_alike_168 (by decide +kernel) ?_
                  refine lv_iand hx hb dX13_alike_169 ?_
                  refine lv_topi (fun z_161 ez_161 => ?_)
                  have hBz_161 : isB z_161 := by rw [ez_161]; rw [isBand0 hBi]; exact isB0
                  refine lv_istore_n (lv' := [(3, .int z_161), (4, .int z_157), (5, .int kk), (0, .ref h0), (1, .int x1), (2, .int x2)]) hx hb dX13_alike_170 rfl hl (by decide +kernel) rfl (fun ls hl => ?_)
                  obtain ⟨z_162, ez_162⟩ : ∃ y : Int32, y = kk + 1 := ⟨_, rfl⟩
                  refine lv_iinc (v := z_162) (lv' := [(5, .int z_162), (3, .int z_161), (4, .int z_157), (0, .ref h0), (1, .int x1), (2, .int x2)]) hx hb dX13_alike_171 hl (k := 2) rfl (by rw [ez_162]; rfl) (by decide +kernel) rfl (fun ls hl => ?_)
                  refine lv_goto (tgt := 60) hx hb dX13_alike_174 (by decide +kernel) ?_
                  have hi9 : z_162.toInt = kk.toInt + 1 := by rw [ez_162]; exact inc1 (i := kk) (n := 1000) (by omega) (by decide +kernel)
                  exact ih (z_162, z_157, z_161) ls ⟨lv_sub hl [0, 2, 1, 3, 4, 5] rfl, ⟨⟨(by (try dsimp only); omega), (by (try dsimp only); omega)⟩, hBz_157, hBz_161, (by (try dsimp only); rw [tnS (by omega) hi9]; exact akI_step hak (Or.inr ⟨(fun h8 => by have h7 := (hoz_157.1 h8).2; rw [ti_1] at h7; omega), Or.inr (Or.inr (by rw [← hxz_142]; omega))⟩) (Or.inr ⟨(by rw [ez_161, isBand0 hBi]; decide), (fun h9 => by have h8 := h9.1; rw [← hxz_158, ← hxz_159] at h8; have h7 := congrArg Int64.toInt h8; omega)⟩))⟩⟩ (by (try dsimp only); omega)
                · rw [lcmp_eq] at c_160
                  refine lv_aload_n hx hb dX13_alike_136 rfl (lv_at hl 3 rfl) ?_
                  refine va_get (D := D) (ci := 10) (v := .ref (a 21)) (C := RX13) (T := TX13) (N := 45) hx hb hts in_X13_alike_X13 hown hE.1 hP 0 rfl rfl 21 (by decide +kernel) (hts (.fieldLink RX13 60 "ClauseBookModel" "worthBelow" "[J") (List.mem_of_getElem? (i := 4) rfl)) (fun _ h9 => h9) rfl dX13_alike_137 ?_
                  refine lv_bipush (v := 28) hx hb dX13_alike_140 (by decide +kernel) ?_
                  refine lv_iload_n hx hb dX13_alike_142 rfl (lv_at hl 4 rfl) ?_
                  refine lv_imul hx hb dX13_alike_143 ?_
                  refine lv_iload hx hb dX13_alike_144 (lv_at hl 1 rfl) ?_
                  refine lv_iadd hx hb dX13_alike_146 ?_
                  refine va_lald hx hb hE.1 hP 9 1 rfl rfl (by rw [vp_in_iff]; first | omega | (rw [fb_addI (by omega) (by omega)]; omega)) dX13_alike_147 ?_
                  refine lv_topl (fun z_163 ez_163 => ?_)
                  have hxz_163 : z_163 = f_119 (28 * x1.toNatClampNeg + kk.toNatClampNeg) := by rw [ez_163, hix1]
                  refine lv_aload_n hx hb dX13_alike_148 rfl (lv_at hl 3 rfl) ?_
                  refine va_get (D := D) (ci := 10) (v := .ref (a 21)) (C := RX13) (T := TX13) (N := 45) hx hb hts in_X13_alike_X13 hown hE.1 hP 0 rfl rfl 21 (by decide +kernel) (hts (.fieldLink RX13 60 "ClauseBookModel" "worthBelow" "[J") (List.mem_of_getElem? (i := 4) rfl)) (fun _ h9 => h9) rfl dX13_alike_149 ?_
                  refine lv_bipush (v := 28) hx hb dX13_alike_152 (by decide +kernel) ?_
                  refine lv_iload_n hx hb dX13_alike_154 rfl (lv_at hl 5 rfl) ?_
                  refine lv_imul hx hb dX13_alike_155 ?_
                  refine lv_iload hx hb dX13_alike_156 (lv_at hl 1 rfl) ?_
                  refine lv_iadd hx hb dX13_alike_158 ?_
                  refine va_lald hx hb hE.1 hP 9 1 rfl rfl (by rw [vp_in_iff]; first | omega | (rw [fb_addI (by omega) (by omega)]; omega)) dX13_alike_159 ?_
                  refine lv_topl (fun z_164 ez_164 => ?_)
                  have hxz_164 : z_164 = f_119 (28 * x2.toNatClampNeg + kk.toNatClampNeg) := by rw [ez_164, hix2]
                  refine W.lcmp hx hb dX13_alike_160 ?_
                  refine lv_if_ne (tgt := 168) hx hb dX13_alike_161 (by decide +kernel) (fun c_165 => ?_) (fun c_165 => ?_)
                  · rw [lcmp_eq] at c_165
                    refine lv_iconst (v := 0) hx hb dX13_alike_168 (by decide +kernel) ?_
                    refine lv_iand hx hb dX13_alike_169 ?_
                    refine lv_topi (fun z_166 ez_166 => ?_)
                    have hBz_166 : isB z_166 := by rw [ez_166]; rw [isBand0 hBi]; exact isB0
                    refine lv_istore_n (lv' := [(3, .int z_166), (4, .int z_157), (5, .int kk), (0, .ref h0), (1, .int x1), (2, .int x2)]) hx hb dX13_alike_170 rfl hl (by decide +kernel) rfl (fun ls hl => ?_)
                    obtain ⟨z_167, ez_167⟩ : ∃ y : Int32, y = kk + 1 := ⟨_, rfl⟩
                    refine lv_iinc (v := z_167) (lv' := [(5, .int z_167), (3, .int z_166), (4, .int z_157), (0, .ref h0), (1, .int x1), (2, .int x2)]) hx hb dX13_alike_171 hl (k := 2) rfl (by rw [ez_167]; rfl) (by decide +kernel) rfl (fun ls hl => ?_)
                    refine lv_goto (tgt := 60) hx hb dX13_alike_174 (by decide +kernel) ?_
                    have hi9 : z_167.toInt = kk.toInt + 1 := by rw [ez_167]; exact inc1 (i := kk) (n := 1000) (by omega) (by decide +kernel)
                    exact ih (z_167, z_157, z_166) ls ⟨lv_sub hl [0, 2, 1, 3, 4, 5] rfl, ⟨⟨(by (try dsimp only); omega), (by (try dsimp only); omega)⟩, hBz_157, hBz_166, (by (try dsimp only); rw [tnS (by omega) hi9]; exact akI_step hak (Or.inr ⟨(fun h8 => by have h7 := (hoz_157.1 h8).2; rw [ti_1] at h7; omega), Or.inr (Or.inr (by rw [← hxz_142]; omega))⟩) (Or.inr ⟨(by rw [ez_166, isBand0 hBi]; decide), (fun h9 => by have h8 := h9.2; rw [← hxz_163, ← hxz_164] at h8; have h7 := congrArg Int64.toInt h8; omega)⟩))⟩⟩ (by (try dsimp only); omega)
                  · rw [lcmp_eq] at c_165
                    refine lv_iconst (v := 1) hx hb dX13_alike_164 (by decide +kernel) ?_
                    refine lv_goto (tgt := 169) hx hb dX13_alike_165 (by decide +kernel) ?_
                    refine lv_iand hx hb dX13_alike_169 ?_
                    refine lv_topi (fun z_168 ez_168 => ?_)
                    have hBz_168 : isB z_168 := by rw [ez_168]; rw [isBand1 hBi]; exact hBi
                    refine lv_istore_n (lv' := [(3, .int z_168), (4, .int z_157), (5, .int kk), (0, .ref h0), (1, .int x1), (2, .int x2)]) hx hb dX13_alike_170 rfl hl (by decide +kernel) rfl (fun ls hl => ?_)
                    obtain ⟨z_169, ez_169⟩ : ∃ y : Int32, y = kk + 1 := ⟨_, rfl⟩
                    refine lv_iinc (v := z_169) (lv' := [(5, .int z_169), (3, .int z_168), (4, .int z_157), (0, .ref h0), (1, .int x1), (2, .int x2)]) hx hb dX13_alike_171 hl (k := 2) rfl (by rw [ez_169]; rfl) (by decide +kernel) rfl (fun ls hl => ?_)
                    refine lv_goto (tgt := 60) hx hb dX13_alike_174 (by decide +kernel) ?_
                    have hi9 : z_169.toInt = kk.toInt + 1 := by rw [ez_169]; exact inc1 (i := kk) (n := 1000) (by omega) (by decide +kernel)
                    exact ih (z_169, z_157, z_168) ls ⟨lv_sub hl [0, 2, 1, 3, 4, 5] rfl, ⟨⟨(by (try dsimp only); omega), (by (try dsimp only); omega)⟩, hBz_157, hBz_168, (by (try dsimp only); rw [tnS (by omega) hi9]; exact akI_step hak (Or.inr ⟨(fun h8 => by have h7 := (hoz_157.1 h8).2; rw [ti_1] at h7; omega), Or.inr (Or.inr (by rw [← hxz_142]; omega))⟩) (Or.inl ⟨(by rw [ez_168, isBand1 hBi]), (by rw [← hxz_158, ← hxz_159]; exact Int64.toInt_inj.1 (by omega)), (by rw [← hxz_163, ← hxz_164]; exact Int64.toInt_inj.1 (by omega))⟩))⟩⟩ (by (try dsimp only); omega)
        · rw [fa_eq] at c_123
          refine lv_iconst (v := 1) hx hb dX13_alike_48 (by decide +kernel) ?_
          refine lv_goto (tgt := 53) hx hb dX13_alike_49 (by decide +kernel) ?_
          refine lv_istore_n (lv' := [(3, .int 1), (0, .ref h0), (1, .int x1), (2, .int x2)]) hx hb dX13_alike_53 rfl hl (by decide +kernel) rfl (fun ls hl => ?_)
          refine lv_iconst (v := 0) hx hb dX13_alike_54 (by decide +kernel) ?_
          refine lv_istore (lv' := [(4, .int 0), (3, .int 1), (0, .ref h0), (1, .int x1), (2, .int x2)]) hx hb dX13_alike_55 hl (by decide +kernel) rfl (fun ls hl => ?_)
          refine lv_iconst (v := 0) hx hb dX13_alike_57 (by decide +kernel) ?_
          refine lv_istore (lv' := [(5, .int 0), (4, .int 0), (3, .int 1), (0, .ref h0), (1, .int x1), (2, .int x2)]) hx hb dX13_alike_58 hl (by decide +kernel) rfl (fun ls hl => ?_)
          refine loopR (σ := (Int32) × (Int32) × (Int32)) (fun x9 ls => lv_has ls 6 [(5, .int x9.1), (4, .int x9.2.1), (3, .int x9.2.2), (0, .ref h0), (1, .int x1), (2, .int x2)] ∧ ((0 ≤ x9.1.toInt ∧ x9.1.toInt ≤ 28) ∧ isB x9.2.1 ∧ isB x9.2.2 ∧ akI f_118 f_119 f_120 ((f_115 (x1.toNatClampNeg)).toInt = (f_115 (x2.toNatClampNeg)).toInt) (28 * x1.toNatClampNeg) (28 * x2.toNatClampNeg) x9.1.toNatClampNeg x9.2.1 x9.2.2)) (fun x9 => (28 - x9.1.toInt).toNat) (fun x9 ls hI ih => ?_) (0, 0, 1) ls ⟨lv_sub hl [0, 1, 2, 3, 4, 5] rfl, ⟨⟨(by (try dsimp only); decide), (by (try dsimp only); decide)⟩, isB0, isB1, (by (try dsimp only); exact akI_0y (by omega))⟩⟩
          obtain ⟨kk, ov, is⟩ := x9
          obtain ⟨hl, hinv⟩ := hI
          have hl : lv_has ls 6 [(5, .int kk), (4, .int ov), (3, .int is), (0, .ref h0), (1, .int x1), (2, .int x2)] := hl
          have hinv : (0 ≤ kk.toInt ∧ kk.toInt ≤ 28) ∧ isB ov ∧ isB is ∧ akI f_118 f_119 f_120 ((f_115 (x1.toNatClampNeg)).toInt = (f_115 (x2.toNatClampNeg)).toInt) (28 * x1.toNatClampNeg) (28 * x2.toNatClampNeg) kk.toNatClampNeg ov is := hinv
          obtain ⟨hkk, hBo, hBi, hak⟩ := hinv
          have h28x1 : (28 * x1).toInt = 28 * x1.toInt := by rw [fb_mulI (by rw [ti_28]; omega) (by rw [ti_28]; omega), ti_28]
          have h28x2 : (28 * x2).toInt = 28 * x2.toInt := by rw [fb_mulI (by rw [ti_28]; omega) (by rw [ti_28]; omega), ti_28]
          refine lv_iload hx hb dX13_alike_60 (lv_at hl 0 rfl) ?_
          refine lv_bipush (v := 28) hx hb dX13_alike_62 (by decide +kernel) ?_
          refine lv_icmp_ge (tgt := 177) hx hb dX13_alike_64 (by decide +kernel) (fun c_170 => ?_) (fun c_170 => ?_)
          · rw [fa_le] at c_170
            try rw [ti_28] at c_170
            have hk28 : kk.toNatClampNeg = 28 := by have h9 := tn (x := kk) (by omega); omega
            have hak9 : akI f_118 f_119 f_120 ((f_115 (x1.toNatClampNeg)).toInt = (f_115 (x2.toNatClampNeg)).toInt) (28 * x1.toNatClampNeg) (28 * x2.toNatClampNeg) 28 ov is := by rw [hk28] at hak; exact hak
            refine lv_iload hx hb dX13_alike_177 (lv_at hl 1 rfl) ?_
            refine lv_if_eq (tgt := 187) hx hb dX13_alike_179 (by decide +kernel) (fun c_171 => ?_) (fun c_171 => ?_)
            · rw [fa_eq] at c_171
              try rw [ti_0] at c_171
              refine lv_iload_n hx hb dX13_alike_187 rfl (lv_at hl 2 rfl) ?_
              refine lv_if_eq (tgt := 195) hx hb dX13_alike_188 (by decide +kernel) (fun c_172 => ?_) (fun c_172 => ?_)
              · rw [fa_eq] at c_172
                try rw [ti_0] at c_172
                refine lv_iconst (v := 0) hx hb dX13_alike_195 (by decide +kernel) ?_
                exact W.iret hx hb hr (fun t ht hW => ⟨⟨_, (0, l_113, l_114, f_115, f_116, f_117, f_118, f_119, f_120), rfl, ⟨(show isB 0 from isB0), (show ∀ j : Nat, isB (f_120 j) from hZ), (show (0 ≤ x1.toInt ∧ x1.toInt < (q 7).toInt) ∧ 0 ≤ x2.toInt ∧ x2.toInt < (q 7).toInt → ∀ j : Nat, (j : Int) < (q 7).toInt → mesP f8 f9 f10 f11 f_115 f_116 f_117 j from (fun _ => hMEr)), (show alkQ (VALW (lqW (q 0) (q 1) (q 2) (q 3) (q 4) (q 5) (q 6)) f8 f9 f10 f11 f_115) f_115 (q 7) x1 x2 (0 : Int32) from (akI_end (g0 := f_118) (g1 := f_119) (g2 := f_120) (ov := ov) (is := is) ⟨⟨(by omega), (by omega)⟩, (by omega), (by omega)⟩ (fun t s g => ⟨hTV x1 t s g (by omega) (by omega), hTV x2 t s g (by omega) (by omega)⟩) (fun t s g => ⟨(hW1 _ (by have h9 := slN_b (c := x1) (x := (x1 + 1)) (t := t) (k := s) (by have h8 := inc1 (i := x1) (n := 24) (by omega) (by decide +kernel); omega) g; have h8 := inc1 (i := x1) (n := 24) (by omega) (by decide +kernel); omega)), (hW1 _ (by have h9 := slN_b (c := x2) (x := (x2 + 1)) (t := t) (k := s) (by have h8 := inc1 (i := x2) (n := 24) (by omega) (by decide +kernel); omega) g; have h8 := inc1 (i := x2) (n := 24) (by omega) (by decide +kernel); omega))⟩) hak9 (by first | exact Or.inl ⟨by omega, by decide⟩ | exact Or.inr ⟨by omega, Or.inl ⟨by omega, by decide⟩⟩ | exact Or.inr ⟨by omega, Or.inr ⟨by omega, by decide⟩⟩)))⟩, by rw [ht]; exact hP.sub [0, 1, 2, 3, 4, 5, 6, 7, 8, 9, 10] rfl, hD.sub [0, 1, 2, 3, 4, 5, 6, 7, 8, 9, 10] (by decide +kernel) rfl⟩, hS.F ht⟩) hS.2.2 dX13_alike_196
              · rw [fa_eq] at c_172
                try rw [ti_0] at c_172
                refine lv_iconst (v := 1) hx hb dX13_alike_191 (by decide +kernel) ?_
                refine lv_goto (tgt := 196) hx hb dX13_alike_192 (by decide +kernel) ?_
                exact W.iret hx hb hr (fun t ht hW => ⟨⟨_, (0, l_113, l_114, f_115, f_116, f_117, f_118, f_119, f_120), rfl, ⟨(show isB 0 from isB0), (show ∀ j : Nat, isB (f_120 j) from hZ), (show (0 ≤ x1.toInt ∧ x1.toInt < (q 7).toInt) ∧ 0 ≤ x2.toInt ∧ x2.toInt < (q 7).toInt → ∀ j : Nat, (j : Int) < (q 7).toInt → mesP f8 f9 f10 f11 f_115 f_116 f_117 j from (fun _ => hMEr)), (show alkQ (VALW (lqW (q 0) (q 1) (q 2) (q 3) (q 4) (q 5) (q 6)) f8 f9 f10 f11 f_115) f_115 (q 7) x1 x2 (1 : Int32) from (akI_end (g0 := f_118) (g1 := f_119) (g2 := f_120) (ov := ov) (is := is) ⟨⟨(by omega), (by omega)⟩, (by omega), (by omega)⟩ (fun t s g => ⟨hTV x1 t s g (by omega) (by omega), hTV x2 t s g (by omega) (by omega)⟩) (fun t s g => ⟨(hW1 _ (by have h9 := slN_b (c := x1) (x := (x1 + 1)) (t := t) (k := s) (by have h8 := inc1 (i := x1) (n := 24) (by omega) (by decide +kernel); omega) g; have h8 := inc1 (i := x1) (n := 24) (by omega) (by decide +kernel); omega)), (hW1 _ (by have h9 := slN_b (c := x2) (x := (x2 + 1)) (t := t) (k := s) (by have h8 := inc1 (i := x2) (n := 24) (by omega) (by decide +kernel); omega) g; have h8 := inc1 (i := x2) (n := 24) (by omega) (by decide +kernel); omega))⟩) hak9 (by first | exact Or.inl ⟨by omega, by decide⟩ | exact Or.inr ⟨by omega, Or.inl ⟨by omega, by decide⟩⟩ | exact Or.inr ⟨by omega, Or.inr ⟨by omega, by decide⟩⟩)))⟩, by rw [ht]; exact hP.sub [0, 1, 2, 3, 4, 5, 6, 7, 8, 9, 10] rfl, hD.sub [0, 1, 2, 3, 4, 5, 6, 7, 8, 9, 10] (by decide +kernel) rfl⟩, hS.F ht⟩) hS.2.2 dX13_alike_196
            · rw [fa_eq] at c_171
              try rw [ti_0] at c_171
              refine lv_bipush (v := (-5)) hx hb dX13_alike_182 (by decide +kernel) ?_
              refine lv_goto (tgt := 196) hx hb dX13_alike_184 (by decide +kernel) ?_
              exact W.iret hx hb hr (fun t ht hW => ⟨⟨_, (0, l_113, l_114, f_115, f_116, f_117, f_118, f_119, f_120), rfl, ⟨(show isB 0 from isB0), (show ∀ j : Nat, isB (f_120 j) from hZ), (show (0 ≤ x1.toInt ∧ x1.toInt < (q 7).toInt) ∧ 0 ≤ x2.toInt ∧ x2.toInt < (q 7).toInt → ∀ j : Nat, (j : Int) < (q 7).toInt → mesP f8 f9 f10 f11 f_115 f_116 f_117 j from (fun _ => hMEr)), (show alkQ (VALW (lqW (q 0) (q 1) (q 2) (q 3) (q 4) (q 5) (q 6)) f8 f9 f10 f11 f_115) f_115 (q 7) x1 x2 ((-5) : Int32) from (akI_end (g0 := f_118) (g1 := f_119) (g2 := f_120) (ov := ov) (is := is) ⟨⟨(by omega), (by omega)⟩, (by omega), (by omega)⟩ (fun t s g => ⟨hTV x1 t s g (by omega) (by omega), hTV x2 t s g (by omega) (by omega)⟩) (fun t s g => ⟨(hW1 _ (by have h9 := slN_b (c := x1) (x := (x1 + 1)) (t := t) (k := s) (by have h8 := inc1 (i := x1) (n := 24) (by omega) (by decide +kernel); omega) g; have h8 := inc1 (i := x1) (n := 24) (by omega) (by decide +kernel); omega)), (hW1 _ (by have h9 := slN_b (c := x2) (x := (x2 + 1)) (t := t) (k := s) (by have h8 := inc1 (i := x2) (n := 24) (by omega) (by decide +kernel); omega) g; have h8 := inc1 (i := x2) (n := 24) (by omega) (by decide +kernel); omega))⟩) hak9 (by first | exact Or.inl ⟨by omega, by decide⟩ | exact Or.inr ⟨by omega, Or.inl ⟨by omega, by decide⟩⟩ | exact Or.inr ⟨by omega, Or.inr ⟨by omega, by decide⟩⟩)))⟩, by rw [ht]; exact hP.sub [0, 1, 2, 3, 4, 5, 6, 7, 8, 9, 10] rfl, hD.sub [0, 1, 2, 3, 4, 5, 6, 7, 8, 9, 10] (by decide +kernel) rfl⟩, hS.F ht⟩) hS.2.2 dX13_alike_196
          · rw [fa_le] at c_170
            try rw [ti_28] at c_170
            have hix1 : ((28 * x1) + kk).toNatClampNeg = 28 * x1.toNatClampNeg + kk.toNatClampNeg := ak_ix (by omega) (by omega)
            have hix2 : ((28 * x2) + kk).toNatClampNeg = 28 * x2.toNatClampNeg + kk.toNatClampNeg := ak_ix (by omega) (by omega)
            refine lv_iload hx hb dX13_alike_67 (lv_at hl 1 rfl) ?_
            refine lv_aload_n hx hb dX13_alike_69 rfl (lv_at hl 3 rfl) ?_
            refine va_get (D := D) (ci := 10) (v := .ref (a 22)) (C := RX13) (T := TX13) (N := 45) hx hb hts in_X13_alike_X13 hown hE.1 hP 0 rfl rfl 22 (by decide +kernel) (hts (.fieldLink RX13 63 "ClauseBookModel" "worthMuch" "[Z") (List.mem_of_getElem? (i := 2) rfl)) (fun _ h9 => h9) rfl dX13_alike_70 ?_
            refine lv_bipush (v := 28) hx hb dX13_alike_73 (by decide +kernel) ?_
            refine lv_iload_n hx hb dX13_alike_75 rfl (lv_at hl 4 rfl) ?_
            refine lv_imul hx hb dX13_alike_76 ?_
            refine lv_iload hx hb dX13_alike_77 (lv_at hl 0 rfl) ?_
            refine lv_iadd hx hb dX13_alike_79 ?_
            refine va_zald hx hb hE.1 hP 10 4 rfl rfl (by rw [vp_in_iff]; first | omega | (rw [fb_addI (by omega) (by omega)]; omega)) dX13_alike_80 ?_
            refine lv_topi (fun z_173 ez_173 => ?_)
            have hxz_173 : z_173 = f_120 (28 * x1.toNatClampNeg + kk.toNatClampNeg) := by rw [ez_173, hix1]
            refine lv_if_ne (tgt := 99) hx hb dX13_alike_81 (by decide +kernel) (fun c_174 => ?_) (fun c_174 => ?_)
            · rw [fa_eq] at c_174
              try rw [ti_0] at c_174
              refine lv_iconst (v := 1) hx hb dX13_alike_99 (by decide +kernel) ?_
              refine lv_goto (tgt := 104) hx hb dX13_alike_100 (by decide +kernel) ?_
              refine lv_ior hx hb dX13_alike_104 ?_
              refine lv_topi (fun z_175 ez_175 => ?_)
              have hBz_175 : isB z_175 := by rw [ez_175]; exact isB.or hBo isB1
              have hoz_175 : z_175.toInt = 0 ↔ (ov.toInt = 0 ∧ (1 : Int32).toInt = 0) := by rw [ez_175]; exact or_iff hBo isB1
              refine lv_istore (lv' := [(4, .int z_175), (5, .int kk), (3, .int is), (0, .ref h0), (1, .int x1), (2, .int x2)]) hx hb dX13_alike_105 hl (by decide +kernel) rfl (fun ls hl => ?_)
              refine lv_iload_n hx hb dX13_alike_107 rfl (lv_at hl 2 rfl) ?_
              refine lv_aload_n hx hb dX13_alike_108 rfl (lv_at hl 3 rfl) ?_
              refine va_get (D := D) (ci := 10) (v := .ref (a 20)) (C := RX13) (T := TX13) (N := 45) hx hb hts in_X13_alike_X13 hown hE.1 hP 0 rfl rfl 20 (by decide +kernel) (hts (.fieldLink RX13 56 "ClauseBookModel" "worthAbove" "[J") (List.mem_of_getElem? (i := 3) rfl)) (fun _ h9 => h9) rfl dX13_alike_109 ?_
              refine lv_bipush (v := 28) hx hb dX13_alike_112 (by decide +kernel) ?_
              refine lv_iload_n hx hb dX13_alike_114 rfl (lv_at hl 4 rfl) ?_
              refine lv_imul hx hb dX13_alike_115 ?_
              refine lv_iload hx hb dX13_alike_116 (lv_at hl 1 rfl) ?_
              refine lv_iadd hx hb dX13_alike_118 ?_
              refine va_lald hx hb hE.1 hP 8 1 rfl rfl (by rw [vp_in_iff]; first | omega | (rw [fb_addI (by omega) (by omega)]; omega)) dX13_alike_119 ?_
              refine lv_topl (fun z_176 ez_176 => ?_)
              have hxz_176 : z_176 = f_118 (28 * x1.toNatClampNeg + kk.toNatClampNeg) := by rw [ez_176, hix1]
              refine lv_aload_n hx hb dX13_alike_120 rfl (lv_at hl 3 rfl) ?_
              refine va_get (D := D) (ci := 10) (v := .ref (a 20)) (C := RX13) (T := TX13) (N := 45) hx hb hts in_X13_alike_X13 hown hE.1 hP 0 rfl rfl 20 (by decide +kernel) (hts (.fieldLink RX13 56 "ClauseBookModel" "worthAbove" "[J") (List.mem_of_getElem? (i := 3) rfl)) (fun _ h9 => h9) rfl dX13_alike_121 ?_
              refine lv_bipush (v := 28) hx hb dX13_alike_124 (by decide +kernel) ?_
              refine lv_iload_n hx hb dX13_alike_126 rfl (lv_at hl 5 rfl) ?_
              refine lv_imul hx hb dX13_alike_127 ?_
              refine lv_iload hx hb dX13_alike_128 (lv_at hl 1 rfl) ?_
              refine lv_iadd hx hb dX13_alike_130 ?_
              refine va_lald hx hb hE.1 hP 8 1 rfl rfl (by rw [vp_in_iff]; first | omega | (rw [fb_addI (by omega) (by omega)]; omega)) dX13_alike_131 ?_
              refine lv_topl (fun z_177 ez_177 => ?_)
              have hxz_177 : z_177 = f_118 (28 * x2.toNatClampNeg + kk.toNatClampNeg) := by rw [ez_177, hix2]
              refine W.lcmp hx hb dX13_alike_132 ?_
              refine lv_if_ne (tgt := 168) hx hb dX13_alike_133 (by decide +kernel) (fun c_178 => ?_) (fun c_178 => ?_)
              · rw [lcmp_eq] at c_178
                refine lv_iconst (v := 0) hx hb dX13_alike_168 (by decide +kernel) ?_
                refine lv_iand hx hb dX13_alike_169 ?_
                refine lv_topi (fun z_179 ez_179 => ?_)
                have hBz_179 : isB z_179 := by rw [ez_179]; rw [isBand0 hBi]; exact isB0
                refine lv_istore_n (lv' := [(3, .int z_179), (4, .int z_175), (5, .int kk), (0, .ref h0), (1, .int x1), (2, .int x2)]) hx hb dX13_alike_170 rfl hl (by decide +kernel) rfl (fun ls hl => ?_)
                obtain ⟨z_180, ez_180⟩ : ∃ y : Int32, y = kk + 1 := ⟨_, rfl⟩
                refine lv_iinc (v := z_180) (lv' := [(5, .int z_180), (3, .int z_179), (4, .int z_175), (0, .ref h0), (1, .int x1), (2, .int x2)]) hx hb dX13_alike_171 hl (k := 2) rfl (by rw [ez_180]; rfl) (by decide +kernel) rfl (fun ls hl => ?_)
                refine lv_goto (tgt := 60) hx hb dX13_alike_174 (by decide +kernel) ?_
                have hi9 : z_180.toInt = kk.toInt + 1 := by rw [ez_180]; exact inc1 (i := kk) (n := 1000) (by omega) (by decide +kernel)
                exact ih (z_180, z_175, z_179) ls ⟨lv_sub hl [0, 2, 1, 3, 4, 5] rfl, ⟨⟨(by (try dsimp only); omega), (by (try dsimp only); omega)⟩, hBz_175, hBz_179, (by (try dsimp only); rw [tnS (by omega) hi9]; exact akI_step hak (Or.inr ⟨(fun h8 => by have h7 := (hoz_175.1 h8).2; rw [ti_1] at h7; omega), Or.inr (Or.inl (by rw [← hxz_173]; omega))⟩) (Or.inr ⟨(by rw [ez_179, isBand0 hBi]; decide), (fun h9 => by have h8 := h9.1; rw [← hxz_176, ← hxz_177] at h8; have h7 := congrArg Int64.toInt h8; omega)⟩))⟩⟩ (by (try dsimp only); omega)
              · rw [lcmp_eq] at c_178
                refine lv_aload_n hx hb dX13_alike_136 rfl (lv_at hl 3 rfl) ?_
                refine va_get (D := D) (ci := 10) (v := .ref (a 21)) (C := RX13) (T := TX13) (N := 45) hx hb hts in_X13_alike_X13 hown hE.1 hP 0 rfl rfl 21 (by decide +kernel) (hts (.fieldLink RX13 60 "ClauseBookModel" "worthBelow" "[J") (List.mem_of_getElem? (i := 4) rfl)) (fun _ h9 => h9) rfl dX13_alike_137 ?_
                refine lv_bipush (v := 28) hx hb dX13_alike_140 (by decide +kernel) ?_
                refine lv_iload_n hx hb dX13_alike_142 rfl (lv_at hl 4 rfl) ?_
                refine lv_imul hx hb dX13_alike_143 ?_
                refine lv_iload hx hb dX13_alike_144 (lv_at hl 1 rfl) ?_
                refine lv_iadd hx hb dX13_alike_146 ?_
                refine va_lald hx hb hE.1 hP 9 1 rfl rfl (by rw [vp_in_iff]; first | omega | (rw [fb_addI (by omega) (by omega)]; omega)) dX13_alike_147 ?_
                refine lv_topl (fun z_181 ez_181 => ?_)
                have hxz_181 : z_181 = f_119 (28 * x1.toNatClampNeg + kk.toNatClampNeg) := by rw [ez_181, hix1]
                refine lv_aload_n hx hb dX13_alike_148 rfl (lv_at hl 3 rfl) ?_
                refine va_get (D := D) (ci := 10) (v := .ref (a 21)) (C := RX13) (T := TX13) (N := 45) hx hb hts in_X13_alike_X13 hown hE.1 hP 0 rfl rfl 21 (by decide +kernel) (hts (.fieldLink RX13 60 "ClauseBookModel" "worthBelow" "[J") (List.mem_of_getElem? (i := 4) rfl)) (fun _ h9 => h9) rfl dX13_alike_149 ?_
                refine lv_bipush (v := 28) hx hb dX13_alike_152 (by decide +kernel) ?_
                refine lv_iload_n hx hb dX13_alike_154 rfl (lv_at hl 5 rfl) ?_
                refine lv_imul hx hb dX13_alike_155 ?_
                refine lv_iload hx hb dX13_alike_156 (lv_at hl 1 rfl) ?_
                refine lv_iadd hx hb dX13_alike_158 ?_
                refine va_lald hx hb hE.1 hP 9 1 rfl rfl (by rw [vp_in_iff]; first | omega | (rw [fb_addI (by omega) (by omega)]; omega)) dX13_alike_159 ?_
                refine lv_topl (fun z_182 ez_182 => ?_)
                have hxz_182 : z_182 = f_119 (28 * x2.toNatClampNeg + kk.toNatClampNeg) := by rw [ez_182, hix2]
                refine W.lcmp hx hb dX13_alike_160 ?_
                refine lv_if_ne (tgt := 168) hx hb dX13_alike_161 (by decide +kernel) (fun c_183 => ?_) (fun c_183 => ?_)
                · rw [lcmp_eq] at c_183
                  refine lv_iconst (v := 0) hx hb dX13_alike_168 (by decide +kernel) ?_
                  refine lv_iand hx hb dX13_alike_169 ?_
                  refine lv_topi (fun z_184 ez_184 => ?_)
                  have hBz_184 : isB z_184 := by rw [ez_184]; rw [isBand0 hBi]; exact isB0
                  refine lv_istore_n (lv' := [(3, .int z_184), (4, .int z_175), (5, .int kk), (0, .ref h0), (1, .int x1), (2, .int x2)]) hx hb dX13_alike_170 rfl hl (by decide +kernel) rfl (fun ls hl => ?_)
                  obtain ⟨z_185, ez_185⟩ : ∃ y : Int32, y = kk + 1 := ⟨_, rfl⟩
                  refine lv_iinc (v := z_185) (lv' := [(5, .int z_185), (3, .int z_184), (4, .int z_175), (0, .ref h0), (1, .int x1), (2, .int x2)]) hx hb dX13_alike_171 hl (k := 2) rfl (by rw [ez_185]; rfl) (by decide +kernel) rfl (fun ls hl => ?_)
                  refine lv_goto (tgt := 60) hx hb dX13_alike_174 (by decide +kernel) ?_
                  have hi9 : z_185.toInt = kk.toInt + 1 := by rw [ez_185]; exact inc1 (i := kk) (n := 1000) (by omega) (by decide +kernel)
                  exact ih (z_185, z_175, z_184) ls ⟨lv_sub hl [0, 2, 1, 3, 4, 5] rfl, ⟨⟨(by (try dsimp only); omega), (by (try dsimp only); omega)⟩, hBz_175, hBz_184, (by (try dsimp only); rw [tnS (by omega) hi9]; exact akI_step hak (Or.inr ⟨(fun h8 => by have h7 := (hoz_175.1 h8).2; rw [ti_1] at h7; omega), Or.inr (Or.inl (by rw [← hxz_173]; omega))⟩) (Or.inr ⟨(by rw [ez_184, isBand0 hBi]; decide), (fun h9 => by have h8 := h9.2; rw [← hxz_181, ← hxz_182] at h8; have h7 := congrArg Int64.toInt h8; omega)⟩))⟩⟩ (by (try dsimp only); omega)
                · rw [lcmp_eq] at c_183
                  refine lv_iconst (v := 1) hx hb dX13_alike_164 (by decide +kernel) ?_
                  refine lv_goto (tgt := 169) hx hb dX13_alike_165 (by decide +kernel) ?_
                  refine lv_iand hx hb dX13_alike_169 ?_
                  refine lv_topi (fun z_186 ez_186 => ?_)
                  have hBz_186 : isB z_186 := by rw [ez_186]; rw [isBand1 hBi]; exact hBi
                  refine lv_istore_n (lv' := [(3, .int z_186), (4, .int z_175), (5, .int kk), (0, .ref h0), (1, .int x1), (2, .int x2)]) hx hb dX13_alike_170 rfl hl (by decide +kernel) rfl (fun ls hl => ?_)
                  obtain ⟨z_187, ez_187⟩ : ∃ y : Int32, y = kk + 1 := ⟨_, rfl⟩
                  refine lv_iinc (v := z_187) (lv' := [(5, .int z_187), (3, .int z_186), (4, .int z_175), (0, .ref h0), (1, .int x1), (2, .int x2)]) hx hb dX13_alike_171 hl (k := 2) rfl (by rw [ez_187]; rfl) (by decide +kernel) rfl (fun ls hl => ?_)
                  refine lv_goto (tgt := 60) hx hb dX13_alike_174 (by decide +kernel) ?_
                  have hi9 : z_187.toInt = kk.toInt + 1 := by rw [ez_187]; exact inc1 (i := kk) (n := 1000) (by omega) (by decide +kernel)
                  exact ih (z_187, z_175, z_186) ls ⟨lv_sub hl [0, 2, 1, 3, 4, 5] rfl, ⟨⟨(by (try dsimp only); omega), (by (try dsimp only); omega)⟩, hBz_175, hBz_186, (by (try dsimp only); rw [tnS (by omega) hi9]; exact akI_step hak (Or.inr ⟨(fun h8 => by have h7 := (hoz_175.1 h8).2; rw [ti_1] at h7; omega), Or.inr (Or.inl (by rw [← hxz_173]; omega))⟩) (Or.inl ⟨(by rw [ez_186, isBand1 hBi]), (by rw [← hxz_176, ← hxz_177]; exact Int64.toInt_inj.1 (by omega)), (by rw [← hxz_181, ← hxz_182]; exact Int64.toInt_inj.1 (by omega))⟩))⟩⟩ (by (try dsimp only); omega)
            · rw [fa_eq] at c_174
              try rw [ti_0] at c_174
              refine lv_aload_n hx hb dX13_alike_84 rfl (lv_at hl 3 rfl) ?_
              refine va_get (D := D) (ci := 10) (v := .ref (a 22)) (C := RX13) (T := TX13) (N := 45) hx hb hts in_X13_alike_X13 hown hE.1 hP 0 rfl rfl 22 (by decide +kernel) (hts (.fieldLink RX13 63 "ClauseBookModel" "worthMuch" "[Z") (List.mem_of_getElem? (i := 2) rfl)) (fun _ h9 => h9) rfl dX13_alike_85 ?_
              refine lv_bipush (v := 28) hx hb dX13_alike_88 (by decide +kernel) ?_
              refine lv_iload_n hx hb dX13_alike_90 rfl (lv_at hl 5 rfl) ?_
              refine lv_imul hx hb dX13_alike_91 ?_
              refine lv_iload hx hb dX13_alike_92 (lv_at hl 0 rfl) ?_
              refine lv_iadd hx hb dX13_alike_94 ?_
              refine va_zald hx hb hE.1 hP 10 4 rfl rfl (by rw [vp_in_iff]; first | omega | (rw [fb_addI (by omega) (by omega)]; omega)) dX13_alike_95 ?_
              refine lv_topi (fun z_188 ez_188 => ?_)
              have hxz_188 : z_188 = f_120 (28 * x2.toNatClampNeg + kk.toNatClampNeg) := by rw [ez_188, hix2]
              refine lv_if_eq (tgt := 103) hx hb dX13_alike_96 (by decide +kernel) (fun c_189 => ?_) (fun c_189 => ?_)
              · rw [fa_eq] at c_189
                try rw [ti_0] at c_189
                refine lv_iconst (v := 0) hx hb dX13_alike_103 (by decide +kernel) ?_
                refine lv_ior hx hb dX13_alike_104 ?_
                refine lv_topi (fun z_190 ez_190 => ?_)
                have hBz_190 : isB z_190 := by rw [ez_190]; exact isB.or hBo isB0
                have hoz_190 : z_190.toInt = 0 ↔ (ov.toInt = 0 ∧ (0 : Int32).toInt = 0) := by rw [ez_190]; exact or_iff hBo isB0
                refine lv_istore (lv' := [(4, .int z_190), (5, .int kk), (3, .int is), (0, .ref h0), (1, .int x1), (2, .int x2)]) hx hb dX13_alike_105 hl (by decide +kernel) rfl (fun ls hl => ?_)
                refine lv_iload_n hx hb dX13_alike_107 rfl (lv_at hl 2 rfl) ?_
                refine lv_aload_n hx hb dX13_alike_108 rfl (lv_at hl 3 rfl) ?_
                refine va_get (D := D) (ci := 10) (v := .ref (a 20)) (C := RX13) (T := TX13) (N := 45) hx hb hts in_X13_alike_X13 hown hE.1 hP 0 rfl rfl 20 (by decide +kernel) (hts (.fieldLink RX13 56 "ClauseBookModel" "worthAbove" "[J") (List.mem_of_getElem? (i := 3) rfl)) (fun _ h9 => h9) rfl dX13_alike_109 ?_
                refine lv_bipush (v := 28) hx hb dX13_alike_112 (by decide +kernel) ?_
                refine lv_iload_n hx hb dX13_alike_114 rfl (lv_at hl 4 rfl) ?_
                refine lv_imul hx hb dX13_alike_115 ?_
                refine lv_iload hx hb dX13_alike_116 (lv_at hl 1 rfl) ?_
                refine lv_iadd hx hb dX13_alike_118 ?_
                refine va_lald hx hb hE.1 hP 8 1 rfl rfl (by rw [vp_in_iff]; first | omega | (rw [fb_addI (by omega) (by omega)]; omega)) dX13_alike_119 ?_
                refine lv_topl (fun z_191 ez_191 => ?_)
                have hxz_191 : z_191 = f_118 (28 * x1.toNatClampNeg + kk.toNatClampNeg) := by rw [ez_191, hix1]
                refine lv_aload_n hx hb dX13_alike_120 rfl (lv_at hl 3 rfl) ?_
                refine va_get (D := D) (ci := 10) (v := .ref (a 20)) (C := RX13) (T := TX13) (N := 45) hx hb hts in_X13_alike_X13 hown hE.1 hP 0 rfl rfl 20 (by decide +kernel) (hts (.fieldLink RX13 56 "ClauseBookModel" "worthAbove" "[J") (List.mem_of_getElem? (i := 3) rfl)) (fun _ h9 => h9) rfl dX13_alike_121 ?_
                refine lv_bipush (v := 28) hx hb dX13_alike_124 (by decide +kernel) ?_
                refine lv_iload_n hx hb dX13_alike_126 rfl (lv_at hl 5 rfl) ?_
                refine lv_imul hx hb dX13_alike_127 ?_
                refine lv_iload hx hb dX13_alike_128 (lv_at hl 1 rfl) ?_
                refine lv_iadd hx hb dX13_alike_130 ?_
                refine va_lald hx hb hE.1 hP 8 1 rfl rfl (by rw [vp_in_iff]; first | omega | (rw [fb_addI (by omega) (by omega)]; omega)) dX13_alike_131 ?_
                refine lv_topl (fun z_192 ez_192 => ?_)
                have hxz_192 : z_192 = f_118 (28 * x2.toNatClampNeg + kk.toNatClampNeg) := by rw [ez_192, hix2]
                refine W.lcmp hx hb dX13_alike_132 ?_
                refine lv_if_ne (tgt := 168) hx hb dX13_alike_133 (by decide +kernel) (fun c_193 => ?_) (fun c_193 => ?_)
                · rw [lcmp_eq] at c_193
                  refine lv_iconst (v := 0) hx hb dX13_alike_168 (by decide +kernel) ?_
                  refine lv_iand hx hb dX13_alike_169 ?_
                  refine lv_topi (fun z_194 ez_194 => ?_)
                  have hBz_194 : isB z_194 := by rw [ez_194]; rw [isBand0 hBi]; exact isB0
                  refine lv_istore_n (lv' := [(3, .int z_194), (4, .int z_190), (5, .int kk), (0, .ref h0), (1, .int x1), (2, .int x2)]) hx hb dX13_alike_170 rfl hl (by decide +kernel) rfl (fun ls hl => ?_)
                  obtain ⟨z_195, ez_195⟩ : ∃ y : Int32, y = kk + 1 := ⟨_, rfl⟩
                  refine lv_iinc (v := z_195) (lv' := [(5, .int z_195), (3, .int z_194), (4, .int z_190), (0, .ref h0), (1, .int x1), (2, .int x2)]) hx hb dX13_alike_171 hl (k := 2) rfl (by rw [ez_195]; rfl) (by decide +kernel) rfl (fun ls hl => ?_)
                  refine lv_goto (tgt := 60) hx hb dX13_alike_174 (by decide +kernel) ?_
                  have hi9 : z_195.toInt = kk.toInt + 1 := by rw [ez_195]; exact inc1 (i := kk) (n := 1000) (by omega) (by decide +kernel)
                  exact ih (z_195, z_190, z_194) ls ⟨lv_sub hl [0, 2, 1, 3, 4, 5] rfl, ⟨⟨(by (try dsimp only); omega), (by (try dsimp only); omega)⟩, hBz_190, hBz_194, (by (try dsimp only); rw [tnS (by omega) hi9]; exact akI_step hak (by have h8 := hoz_190; rw [ti_0] at h8; rcases Classical.em (ov.toInt = 0) with h7 | h7 <;> first | exact Or.inl ⟨h8.2 ⟨h7, rfl⟩, h7, (by rw [← hxz_173]; omega), (by rw [← hxz_188]; omega)⟩ | exact Or.inr ⟨fun h6 => h7 (h8.1 h6).1, Or.inl h7⟩) (Or.inr ⟨(by rw [ez_194, isBand0 hBi]; decide), (fun h9 => by have h8 := h9.1; rw [← hxz_191, ← hxz_192] at h8; have h7 := congrArg Int64.toInt h8; omega)⟩))⟩⟩ (by (try dsimp only); omega)
                · rw [lcmp_eq] at c_193
                  refine lv_aload_n hx hb dX13_alike_136 rfl (lv_at hl 3 rfl) ?_
                  refine va_get (D := D) (ci := 10) (v := .ref (a 21)) (C := RX13) (T := TX13) (N := 45) hx hb hts in_X13_alike_X13 hown hE.1 hP 0 rfl rfl 21 (by decide +kernel) (hts (.fieldLink RX13 60 "ClauseBookModel" "worthBelow" "[J") (List.mem_of_getElem? (i := 4) rfl)) (fun _ h9 => h9) rfl dX13_alike_137 ?_
                  refine lv_bipush (v := 28) hx hb dX13_alike_140 (by decide +kernel) ?_
                  refine lv_iload_n hx hb dX13_alike_142 rfl (lv_at hl 4 rfl) ?_
                  refine lv_imul hx hb dX13_alike_143 ?_
                  refine lv_iload hx hb dX13_alike_144 (lv_at hl 1 rfl) ?_
                  refine lv_iadd hx hb dX13_alike_146 ?_
                  refine va_lald hx hb hE.1 hP 9 1 rfl rfl (by rw [vp_in_iff]; first | omega | (rw [fb_addI (by omega) (by omega)]; omega)) dX13_alike_147 ?_
                  refine lv_topl (fun z_196 ez_196 => ?_)
                  have hxz_196 : z_196 = f_119 (28 * x1.toNatClampNeg + kk.toNatClampNeg) := by rw [ez_196, hix1]
                  refine lv_aload_n hx hb dX13_alike_148 rfl (lv_at hl 3 rfl) ?_
                  refine va_get (D := D) (ci := 10) (v := .ref (a 21)) (C := RX13) (T := TX13) (N := 45) hx hb hts in_X13_alike_X13 hown hE.1 hP 0 rfl rfl 21 (by decide +kernel) (hts (.fieldLink RX13 60 "ClauseBookModel" "worthBelow" "[J") (List.mem_of_getElem? (i := 4) rfl)) (fun _ h9 => h9) rfl dX13_alike_149 ?_
                  refine lv_bipush (v := 28) hx hb dX13_alike_152 (by decide +kernel) ?_
                  refine lv_iload_n hx hb dX13_alike_154 rfl (lv_at hl 5 rfl) ?_
                  refine lv_imul hx hb dX13_alike_155 ?_
                  refine lv_iload hx hb dX13_alike_156 (lv_at hl 1 rfl) ?_
                  refine lv_iadd hx hb dX13_alike_158 ?_
                  refine va_lald hx hb hE.1 hP 9 1 rfl rfl (by rw [vp_in_iff]; first | omega | (rw [fb_addI (by omega) (by omega)]; omega)) dX13_alike_159 ?_
                  refine lv_topl (fun z_197 ez_197 => ?_)
                  have hxz_197 : z_197 = f_119 (28 * x2.toNatClampNeg + kk.toNatClampNeg) := by rw [ez_197, hix2]
                  refine W.lcmp hx hb dX13_alike_160 ?_
                  refine lv_if_ne (tgt := 168) hx hb dX13_alike_161 (by decide +kernel) (fun c_198 => ?_) (fun c_198 => ?_)
                  · rw [lcmp_eq] at c_198
                    refine lv_iconst (v := 0) hx hb dX13_alike_168 (by decide +kernel) ?_
                    refine lv_iand hx hb dX13_alike_169 ?_
                    refine lv_topi (fun z_199 ez_199 => ?_)
                    have hBz_199 : isB z_199 := by rw [ez_199]; rw [isBand0 hBi]; exact isB0
                    refine lv_istore_n (lv' := [(3, .int z_199), (4, .int z_190), (5, .int kk), (0, .ref h0), (1, .int x1), (2, .int x2)]) hx hb dX13_alike_170 rfl hl (by decide +kernel) rfl (fun ls hl => ?_)
                    obtain ⟨z_200, ez_200⟩ : ∃ y : Int32, y = kk + 1 := ⟨_, rfl⟩
                    refine lv_iinc (v := z_200) (lv' := [(5, .int z_200), (3, .int z_199), (4, .int z_190), (0, .ref h0), (1, .int x1), (2, .int x2)]) hx hb dX13_alike_171 hl (k := 2) rfl (by rw [ez_200]; rfl) (by decide +kernel) rfl (fun ls hl => ?_)
                    refine lv_goto (tgt := 60) hx hb dX13_alike_174 (by decide +kernel) ?_
                    have hi9 : z_200.toInt = kk.toInt + 1 := by rw [ez_200]; exact inc1 (i := kk) (n := 1000) (by omega) (by decide +kernel)
                    exact ih (z_200, z_190, z_199) ls ⟨lv_sub hl [0, 2, 1, 3, 4, 5] rfl, ⟨⟨(by (try dsimp only); omega), (by (try dsimp only); omega)⟩, hBz_190, hBz_199, (by (try dsimp only); rw [tnS (by omega) hi9]; exact akI_step hak (by have h8 := hoz_190; rw [ti_0] at h8; rcases Classical.em (ov.toInt = 0) with h7 | h7 <;> first | exact Or.inl ⟨h8.2 ⟨h7, rfl⟩, h7, (by rw [← hxz_173]; omega), (by rw [← hxz_188]; omega)⟩ | exact Or.inr ⟨fun h6 => h7 (h8.1 h6).1, Or.inl h7⟩) (Or.inr ⟨(by rw [ez_199, isBand0 hBi]; decide), (fun h9 => by have h8 := h9.2; rw [← hxz_196, ← hxz_197] at h8; have h7 := congrArg Int64.toInt h8; omega)⟩))⟩⟩ (by (try dsimp only); omega)
                  · rw [lcmp_eq] at c_198
                    refine lv_iconst (v := 1) hx hb dX13_alike_164 (by decide +kernel) ?_
                    refine lv_goto (tgt := 169) hx hb dX13_alike_165 (by decide +kernel) ?_
                    refine lv_iand hx hb dX13_alike_169 ?_
                    refine lv_topi (fun z_201 ez_201 => ?_)
                    have hBz_201 : isB z_201 := by rw [ez_201]; rw [isBand1 hBi]; exact hBi
                    refine lv_istore_n (lv' := [(3, .int z_201), (4, .int z_190), (5, .int kk), (0, .ref h0), (1, .int x1), (2, .int x2)]) hx hb dX13_alike_170 rfl hl (by decide +kernel) rfl (fun ls hl => ?_)
                    obtain ⟨z_202, ez_202⟩ : ∃ y : Int32, y = kk + 1 := ⟨_, rfl⟩
                    refine lv_iinc (v := z_202) (lv' := [(5, .int z_202), (3, .int z_201), (4, .int z_190), (0, .ref h0), (1, .int x1), (2, .int x2)]) hx hb dX13_alike_171 hl (k := 2) rfl (by rw [ez_202]; rfl) (by decide +kernel) rfl (fun ls hl => ?_)
                    refine lv_goto (tgt := 60) hx hb dX13_alike_174 (by decide +kernel) ?_
                    have hi9 : z_202.toInt = kk.toInt + 1 := by rw [ez_202]; exact inc1 (i := kk) (n := 1000) (by omega) (by decide +kernel)
                    exact ih (z_202, z_190, z_201) ls ⟨lv_sub hl [0, 2, 1, 3, 4, 5] rfl, ⟨⟨(by (try dsimp only); omega), (by (try dsimp only); omega)⟩, hBz_190, hBz_201, (by (try dsimp only); rw [tnS (by omega) hi9]; exact akI_step hak (by have h8 := hoz_190; rw [ti_0] at h8; rcases Classical.em (ov.toInt = 0) with h7 | h7 <;> first | exact Or.inl ⟨h8.2 ⟨h7, rfl⟩, h7, (by rw [← hxz_173]; omega), (by rw [← hxz_188]; omega)⟩ | exact Or.inr ⟨fun h6 => h7 (h8.1 h6).1, Or.inl h7⟩) (Or.inl ⟨(by rw [ez_201, isBand1 hBi]), (by rw [← hxz_191, ← hxz_192]; exact Int64.toInt_inj.1 (by omega)), (by rw [← hxz_196, ← hxz_197]; exact Int64.toInt_inj.1 (by omega))⟩))⟩⟩ (by (try dsimp only); omega)
              · rw [fa_eq] at c_189
                try rw [ti_0] at c_189
                refine lv_iconst (v := 1) hx hb dX13_alike_99 (by decide +kernel) ?_
                refine lv_goto (tgt := 104) hx hb dX13_alike_100 (by decide +kernel) ?_
                refine lv_ior hx hb dX13_alike_104 ?_
                refine lv_topi (fun z_203 ez_203 => ?_)
                have hBz_203 : isB z_203 := by rw [ez_203]; exact isB.or hBo isB1
                have hoz_203 : z_203.toInt = 0 ↔ (ov.toInt = 0 ∧ (1 : Int32).toInt = 0) := by rw [ez_203]; exact or_iff hBo isB1
                refine lv_istore (lv' := [(4, .int z_203), (5, .int kk), (3, .int is), (0, .ref h0), (1, .int x1), (2, .int x2)]) hx hb dX13_alike_105 hl (by decide +kernel) rfl (fun ls hl => ?_)
                refine lv_iload_n hx hb dX13_alike_107 rfl (lv_at hl 2 rfl) ?_
                refine lv_aload_n hx hb dX13_alike_108 rfl (lv_at hl 3 rfl) ?_
                refine va_get (D := D) (ci := 10) (v := .ref (a 20)) (C := RX13) (T := TX13) (N := 45) hx hb hts in_X13_alike_X13 hown hE.1 hP 0 rfl rfl 20 (by decide +kernel) (hts (.fieldLink RX13 56 "ClauseBookModel" "worthAbove" "[J") (List.mem_of_getElem? (i := 3) rfl)) (fun _ h9 => h9) rfl dX13_alike_109 ?_
                refine lv_bipush (v := 28) hx hb dX13_alike_112 (by decide +kernel) ?_
                refine lv_iload_n hx hb dX13_alike_114 rfl (lv_at hl 4 rfl) ?_
                refine lv_imul hx hb dX13_alike_115 ?_
                refine lv_iload hx hb dX13_alike_116 (lv_at hl 1 rfl) ?_
                refine lv_iadd hx hb dX13_alike_118 ?_
                refine va_lald hx hb hE.1 hP 8 1 rfl rfl (by rw [vp_in_iff]; first | omega | (rw [fb_addI (by omega) (by omega)]; omega)) dX13_alike_119 ?_
                refine lv_topl (fun z_204 ez_204 => ?_)
                have hxz_204 : z_204 = f_118 (28 * x1.toNatClampNeg + kk.toNatClampNeg) := by rw [ez_204, hix1]
                refine lv_aload_n hx hb dX13_alike_120 rfl (lv_at hl 3 rfl) ?_
                refine va_get (D := D) (ci := 10) (v := .ref (a 20)) (C := RX13) (T := TX13) (N := 45) hx hb hts in_X13_alike_X13 hown hE.1 hP 0 rfl rfl 20 (by decide +kernel) (hts (.fieldLink RX13 56 "ClauseBookModel" "worthAbove" "[J") (List.mem_of_getElem? (i := 3) rfl)) (fun _ h9 => h9) rfl dX13_alike_121 ?_
                refine lv_bipush (v := 28) hx hb dX13_alike_124 (by decide +kernel) ?_
                refine lv_iload_n hx hb dX13_alike_126 rfl (lv_at hl 5 rfl) ?_
                refine lv_imul hx hb dX13_alike_127 ?_
                refine lv_iload hx hb dX13_alike_128 (lv_at hl 1 rfl) ?_
                refine lv_iadd hx hb dX13_alike_130 ?_
                refine va_lald hx hb hE.1 hP 8 1 rfl rfl (by rw [vp_in_iff]; first | omega | (rw [fb_addI (by omega) (by omega)]; omega)) dX13_alike_131 ?_
                refine lv_topl (fun z_205 ez_205 => ?_)
                have hxz_205 : z_205 = f_118 (28 * x2.toNatClampNeg + kk.toNatClampNeg) := by rw [ez_205, hix2]
                refine W.lcmp hx hb dX13_alike_132 ?_
                refine lv_if_ne (tgt := 168) hx hb dX13_alike_133 (by decide +kernel) (fun c_206 => ?_) (fun c_206 => ?_)
                · rw [lcmp_eq] at c_206
                  refine lv_iconst (v := 0) hx hb dX13_alike_168 (by decide +kernel) ?_
                  refine lv_iand hx hb dX13_alike_169 ?_
                  refine lv_topi (fun z_207 ez_207 => ?_)
                  have hBz_207 : isB z_207 := by rw [ez_207]; rw [isBand0 hBi]; exact isB0
                  refine lv_istore_n (lv' := [(3, .int z_207), (4, .int z_203), (5, .int kk), (0, .ref h0), (1, .int x1), (2, .int x2)]) hx hb dX13_alike_170 rfl hl (by decide +kernel) rfl (fun ls hl => ?_)
                  obtain ⟨z_208, ez_208⟩ : ∃ y : Int32, y = kk + 1 := ⟨_, rfl⟩
                  refine lv_iinc (v := z_208) (lv' := [(5, .int z_208), (3, .int z_207), (4, .int z_203), (0, .ref h0), (1, .int x1), (2, .int x2)]) hx hb dX13_alike_171 hl (k := 2) rfl (by rw [ez_208]; rfl) (by decide +kernel) rfl (fun ls hl => ?_)
                  refine lv_goto (tgt := 60) hx hb dX13_alike_174 (by decide +kernel) ?_
                  have hi9 : z_208.toInt = kk.toInt + 1 := by rw [ez_208]; exact inc1 (i := kk) (n := 1000) (by omega) (by decide +kernel)
                  exact ih (z_208, z_203, z_207) ls ⟨lv_sub hl [0, 2, 1, 3, 4, 5] rfl, ⟨⟨(by (try dsimp only); omega), (by (try dsimp only); omega)⟩, hBz_203, hBz_207, (by (try dsimp only); rw [tnS (by omega) hi9]; exact akI_step hak (Or.inr ⟨(fun h8 => by have h7 := (hoz_203.1 h8).2; rw [ti_1] at h7; omega), Or.inr (Or.inr (by rw [← hxz_188]; omega))⟩) (Or.inr ⟨(by rw [ez_207, isBand0 hBi]; decide), (fun h9 => by have h8 := h9.1; rw [← hxz_204, ← hxz_205] at h8; have h7 := congrArg Int64.toInt h8; omega)⟩))⟩⟩ (by (try dsimp only); omega)
                · rw [lcmp_eq] at c_206
                  refine lv_aload_n hx hb dX13_alike_136 rfl (lv_at hl 3 rfl) ?_
                  refine va_get (D := D) (ci := 10) (v := .ref (a 21)) (C := RX13) (T := TX13) (N := 45) hx hb hts in_X13_alike_X13 hown hE.1 hP 0 rfl rfl 21 (by decide +kernel) (hts (.fieldLink RX13 60 "ClauseBookModel" "worthBelow" "[J") (List.mem_of_getElem? (i := 4) rfl)) (fun _ h9 => h9) rfl dX13_alike_137 ?_
                  refine lv_bipush (v := 28) hx hb dX13_alike_140 (by decide +kernel) ?_
                  refine lv_iload_n hx hb dX13_alike_142 rfl (lv_at hl 4 rfl) ?_
                  refine lv_imul hx hb dX13_alike_143 ?_
                  refine lv_iload hx hb dX13_alike_144 (lv_at hl 1 rfl) ?_
                  refine lv_iadd hx hb dX13_alike_146 ?_
                  refine va_lald hx hb hE.1 hP 9 1 rfl rfl (by rw [vp_in_iff]; first | omega | (rw [fb_addI (by omega) (by omega)]; omega)) dX13_alike_147 ?_
                  refine lv_topl (fun z_209 ez_209 => ?_)
                  have hxz_209 : z_209 = f_119 (28 * x1.toNatClampNeg + kk.toNatClampNeg) := by rw [ez_209, hix1]
                  refine lv_aload_n hx hb dX13_alike_148 rfl (lv_at hl 3 rfl) ?_
                  refine va_get (D := D) (ci := 10) (v := .ref (a 21)) (C := RX13) (T := TX13) (N := 45) hx hb hts in_X13_alike_X13 hown hE.1 hP 0 rfl rfl 21 (by decide +kernel) (hts (.fieldLink RX13 60 "ClauseBookModel" "worthBelow" "[J") (List.mem_of_getElem? (i := 4) rfl)) (fun _ h9 => h9) rfl dX13_alike_149 ?_
                  refine lv_bipush (v := 28) hx hb dX13_alike_152 (by decide +kernel) ?_
                  refine lv_iload_n hx hb dX13_alike_154 rfl (lv_at hl 5 rfl) ?_
                  refine lv_imul hx hb dX13_alike_155 ?_
                  refine lv_iload hx hb dX13_alike_156 (lv_at hl 1 rfl) ?_
                  refine lv_iadd hx hb dX13_alike_158 ?_
                  refine va_lald hx hb hE.1 hP 9 1 rfl rfl (by rw [vp_in_iff]; first | omega | (rw [fb_addI (by omega) (by omega)]; omega)) dX13_alike_159 ?_
                  refine lv_topl (fun z_210 ez_210 => ?_)
                  have hxz_210 : z_210 = f_119 (28 * x2.toNatClampNeg + kk.toNatClampNeg) := by rw [ez_210, hix2]
                  refine W.lcmp hx hb dX13_alike_160 ?_
                  refine lv_if_ne (tgt := 168) hx hb dX13_alike_161 (by decide +kernel) (fun c_211 => ?_) (fun c_211 => ?_)
                  · rw [lcmp_eq] at c_211
                    refine lv_iconst (v := 0) hx hb dX13_alike_168 (by decide +kernel) ?_
                    refine lv_iand hx hb dX13_alike_169 ?_
                    refine lv_topi (fun z_212 ez_212 => ?_)
                    have hBz_212 : isB z_212 := by rw [ez_212]; rw [isBand0 hBi]; exact isB0
                    refine lv_istore_n (lv' := [(3, .int z_212), (4, .int z_203), (5, .int kk), (0, .ref h0), (1, .int x1), (2, .int x2)]) hx hb dX13_alike_170 rfl hl (by decide +kernel) rfl (fun ls hl => ?_)
                    obtain ⟨z_213, ez_213⟩ : ∃ y : Int32, y = kk + 1 := ⟨_, rfl⟩
                    refine lv_iinc (v := z_213) (lv' := [(5, .int z_213), (3, .int z_212), (4, .int z_203), (0, .ref h0), (1, .int x1), (2, .int x2)]) hx hb dX13_alike_171 hl (k := 2) rfl (by rw [ez_213]; rfl) (by decide +kernel) rfl (fun ls hl => ?_)
                    refine lv_goto (tgt := 60) hx hb dX13_alike_174 (by decide +kernel) ?_
                    have hi9 : z_213.toInt = kk.toInt + 1 := by rw [ez_213]; exact inc1 (i := kk) (n := 1000) (by omega) (by decide +kernel)
                    exact ih (z_213, z_203, z_212) ls ⟨lv_sub hl [0, 2, 1, 3, 4, 5] rfl, ⟨⟨(by (try dsimp only); omega), (by (try dsimp only); omega)⟩, hBz_203, hBz_212, (by (try dsimp only); rw [tnS (by omega) hi9]; exact akI_step hak (Or.inr ⟨(fun h8 => by have h7 := (hoz_203.1 h8).2; rw [ti_1] at h7; omega), Or.inr (Or.inr (by rw [← hxz_188]; omega))⟩) (Or.inr ⟨(by rw [ez_212, isBand0 hBi]; decide), (fun h9 => by have h8 := h9.2; rw [← hxz_209, ← hxz_210] at h8; have h7 := congrArg Int64.toInt h8; omega)⟩))⟩⟩ (by (try dsimp only); omega)
                  · rw [lcmp_eq] at c_211
                    refine lv_iconst (v := 1) hx hb dX13_alike_164 (by decide +kernel) ?_
                    refine lv_goto (tgt := 169) hx hb dX13_alike_165 (by decide +kernel) ?_
                    refine lv_iand hx hb dX13_alike_169 ?_
                    refine lv_topi (fun z_214 ez_214 => ?_)
                    have hBz_214 : isB z_214 := by rw [ez_214]; rw [isBand1 hBi]; exact hBi
                    refine lv_istore_n (lv' := [(3, .int z_214), (4, .int z_203), (5, .int kk), (0, .ref h0), (1, .int x1), (2, .int x2)]) hx hb dX13_alike_170 rfl hl (by decide +kernel) rfl (fun ls hl => ?_)
                    obtain ⟨z_215, ez_215⟩ : ∃ y : Int32, y = kk + 1 := ⟨_, rfl⟩
                    refine lv_iinc (v := z_215) (lv' := [(5, .int z_215), (3, .int z_214), (4, .int z_203), (0, .ref h0), (1, .int x1), (2, .int x2)]) hx hb dX13_alike_171 hl (k := 2) rfl (by rw [ez_215]; rfl) (by decide +kernel) rfl (fun ls hl => ?_)
                    refine lv_goto (tgt := 60) hx hb dX13_alike_174 (by decide +kernel) ?_
                    have hi9 : z_215.toInt = kk.toInt + 1 := by rw [ez_215]; exact inc1 (i := kk) (n := 1000) (by omega) (by decide +kernel)
                    exact ih (z_215, z_203, z_214) ls ⟨lv_sub hl [0, 2, 1, 3, 4, 5] rfl, ⟨⟨(by (try dsimp only); omega), (by (try dsimp only); omega)⟩, hBz_203, hBz_214, (by (try dsimp only); rw [tnS (by omega) hi9]; exact akI_step hak (Or.inr ⟨(fun h8 => by have h7 := (hoz_203.1 h8).2; rw [ti_1] at h7; omega), Or.inr (Or.inr (by rw [← hxz_188]; omega))⟩) (Or.inl ⟨(by rw [ez_214, isBand1 hBi]), (by rw [← hxz_204, ← hxz_205]; exact Int64.toInt_inj.1 (by omega)), (by rw [← hxz_209, ← hxz_210]; exact Int64.toInt_inj.1 (by omega))⟩))⟩⟩ (by (try dsimp only); omega)
    · refine lv_if_ne (tgt := 19) hx hb dX13_alike_13 (by decide +kernel) (fun c9 => absurd c9 (by decide +kernel)) (fun _ => ?_)
      refine lv_bipush (v := (-2)) hx hb dX13_alike_16 (by decide +kernel) ?_
      exact W.iret hx hb hr (fun t ht hW => ⟨⟨_, ((q 14), v, w, f17, f18, f19, f20, f21, f22), rfl, ⟨(show isB (q 14) from hB), (show ∀ j : Nat, isB (f22 j) from hZ), (show (0 ≤ x1.toInt ∧ x1.toInt < (q 7).toInt) ∧ 0 ≤ x2.toInt ∧ x2.toInt < (q 7).toInt → ∀ j : Nat, (j : Int) < (q 7).toInt → mesP f8 f9 f10 f11 f17 f18 f19 j from (fun h9 => by exfalso; obtain ⟨h1, h2⟩ := h9; omega)), (show alkQ (VALW (lqW (q 0) (q 1) (q 2) (q 3) (q 4) (q 5) (q 6)) f8 f9 f10 f11 f17) f17 (q 7) x1 x2 ((-2) : Int32) from (Or.inl ⟨(fun h9 => by obtain ⟨h1, h2⟩ := h9; omega), (by decide +kernel)⟩))⟩, by rw [ht]; exact hP.sub [0, 1, 2, 3, 4, 5, 6, 7, 8, 9, 10] rfl, hD.sub [0, 1, 2, 3, 4, 5, 6, 7, 8, 9, 10] (by decide +kernel) rfl⟩, hS.F ht⟩) hS.2.2 dX13_alike_18
  · refine lv_if_eq (tgt := 16) hx hb dX13_alike_5 (by decide +kernel) (fun _ => ?_) (fun c9 => absurd c9 (by decide +kernel))
    refine lv_bipush (v := (-2)) hx hb dX13_alike_16 (by decide +kernel) ?_
    exact W.iret hx hb hr (fun t ht hW => ⟨⟨_, ((q 14), v, w, f17, f18, f19, f20, f21, f22), rfl, ⟨(show isB (q 14) from hB), (show ∀ j : Nat, isB (f22 j) from hZ), (show (0 ≤ x1.toInt ∧ x1.toInt < (q 7).toInt) ∧ 0 ≤ x2.toInt ∧ x2.toInt < (q 7).toInt → ∀ j : Nat, (j : Int) < (q 7).toInt → mesP f8 f9 f10 f11 f17 f18 f19 j from (fun h9 => by exfalso; obtain ⟨h1, h2⟩ := h9; omega)), (show alkQ (VALW (lqW (q 0) (q 1) (q 2) (q 3) (q 4) (q 5) (q 6)) f8 f9 f10 f11 f17) f17 (q 7) x1 x2 ((-2) : Int32) from (Or.inl ⟨(fun h9 => by obtain ⟨h1, h2⟩ := h9; omega), (by decide +kernel)⟩))⟩, by rw [ht]; exact hP.sub [0, 1, 2, 3, 4, 5, 6, 7, 8, 9, 10] rfl, hD.sub [0, 1, 2, 3, 4, 5, 6, 7, 8, 9, 10] (by decide +kernel) rfl⟩, hS.F ht⟩) hS.2.2 dX13_alike_18
