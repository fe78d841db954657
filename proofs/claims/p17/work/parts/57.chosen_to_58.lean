section
theorem dX13_value_0 : decode cX13_value 0 = .ok (.aload_n 0, 1) := by decide +kernel
theorem dX13_value_1 : decode cX13_value 1 = .ok (.iload_n 1, 1) := by decide +kernel
theorem dX13_value_10 : decode cX13_value 10 = .ok (.invokestatic 188, 3) := by decide +kernel
theorem dX13_value_13 : decode cX13_value 13 = .ok (.ifCond .eq 14, 3) := by decide +kernel
theorem dX13_value_16 : decode cX13_value 16 = .ok (.iload 4, 2) := by decide +kernel
theorem dX13_value_18 : decode cX13_value 18 = .ok (.i2l, 1) := by decide +kernel
theorem dX13_value_19 : decode cX13_value 19 = .ok (.lconst 0, 1) := by decide +kernel
theorem dX13_value_2 : decode cX13_value 2 = .ok (.invokevirtual 233, 3) := by decide +kernel
theorem dX13_value_20 : decode cX13_value 20 = .ok (.lconst 1, 1) := by decide +kernel
theorem dX13_value_21 : decode cX13_value 21 = .ok (.invokestatic 175, 3) := by decide +kernel
theorem dX13_value_24 : decode cX13_value 24 = .ok (.ifCond .ne 9, 3) := by decide +kernel
theorem dX13_value_27 : decode cX13_value 27 = .ok (.bipush (-2), 2) := by decide +kernel
theorem dX13_value_29 : decode cX13_value 29 = .ok (.invokestatic 270, 3) := by decide +kernel
theorem dX13_value_32 : decode cX13_value 32 = .ok (.lreturn, 1) := by decide +kernel
theorem dX13_value_33 : decode cX13_value 33 = .ok (.aload_n 0, 1) := by decide +kernel
theorem dX13_value_34 : decode cX13_value 34 = .ok (.iload_n 1, 1) := by decide +kernel
theorem dX13_value_35 : decode cX13_value 35 = .ok (.invokevirtual 274, 3) := by decide +kernel
theorem dX13_value_38 : decode cX13_value 38 = .ok (.iload_n 1, 1) := by decide +kernel
theorem dX13_value_39 : decode cX13_value 39 = .ok (.iload_n 2, 1) := by decide +kernel
theorem dX13_value_40 : decode cX13_value 40 = .ok (.iload_n 3, 1) := by decide +kernel
theorem dX13_value_41 : decode cX13_value 41 = .ok (.invokestatic 239, 3) := by decide +kernel
theorem dX13_value_44 : decode cX13_value 44 = .ok (.istore 5, 2) := by decide +kernel
theorem dX13_value_46 : decode cX13_value 46 = .ok (.aload_n 0, 1) := by decide +kernel
theorem dX13_value_47 : decode cX13_value 47 = .ok (.getfield 63, 3) := by decide +kernel
theorem dX13_value_5 : decode cX13_value 5 = .ok (.ifCond .eq 22, 3) := by decide +kernel
theorem dX13_value_50 : decode cX13_value 50 = .ok (.iload 5, 2) := by decide +kernel
theorem dX13_value_52 : decode cX13_value 52 = .ok (.baload, 1) := by decide +kernel
theorem dX13_value_53 : decode cX13_value 53 = .ok (.ifCond .eq 11, 3) := by decide +kernel
theorem dX13_value_56 : decode cX13_value 56 = .ok (.bipush (-5), 2) := by decide +kernel
theorem dX13_value_58 : decode cX13_value 58 = .ok (.invokestatic 270, 3) := by decide +kernel
theorem dX13_value_61 : decode cX13_value 61 = .ok (.goto 25, 3) := by decide +kernel
theorem dX13_value_64 : decode cX13_value 64 = .ok (.iload 4, 2) := by decide +kernel
theorem dX13_value_66 : decode cX13_value 66 = .ok (.ifCond .ne 13, 3) := by decide +kernel
theorem dX13_value_69 : decode cX13_value 69 = .ok (.aload_n 0, 1) := by decide +kernel
theorem dX13_value_70 : decode cX13_value 70 = .ok (.getfield 56, 3) := by decide +kernel
theorem dX13_value_73 : decode cX13_value 73 = .ok (.iload 5, 2) := by decide +kernel
theorem dX13_value_75 : decode cX13_value 75 = .ok (.laload, 1) := by decide +kernel
theorem dX13_value_76 : decode cX13_value 76 = .ok (.goto 10, 3) := by decide +kernel
theorem dX13_value_79 : decode cX13_value 79 = .ok (.aload_n 0, 1) := by decide +kernel
theorem dX13_value_8 : decode cX13_value 8 = .ok (.iload_n 2, 1) := by decide +kernel
theorem dX13_value_80 : decode cX13_value 80 = .ok (.getfield 60, 3) := by decide +kernel
theorem dX13_value_83 : decode cX13_value 83 = .ok (.iload 5, 2) := by decide +kernel
theorem dX13_value_85 : decode cX13_value 85 = .ok (.laload, 1) := by decide +kernel
theorem dX13_value_86 : decode cX13_value 86 = .ok (.lreturn, 1) := by decide +kernel
theorem dX13_value_9 : decode cX13_value 9 = .ok (.iload_n 3, 1) := by decide +kernel
set_option maxRecDepth 20000 in
theorem ggX13_value_X13_at : GoodIn wsX13_value wsX13_at := goodIn_r _ [67] rfl (by decide +kernel)
set_option maxRecDepth 20000 in
theorem ggX13_value_X13_in : GoodIn wsX13_value wsX13_in := goodIn_r _ [12] rfl (by decide +kernel)
set_option maxRecDepth 20000 in
theorem ggX13_value_X13_isClause : GoodIn wsX13_value wsX13_isClause := goodIn_r _ [8, 9, 10, 11, 7, 12, 119, 120, 121, 122, 123, 124, 125, 126, 127, 128, 129, 130, 131, 132, 133, 134, 135, 136, 137, 138, 139, 140, 141, 142, 143, 144, 145, 146, 147, 148, 149, 150, 151, 152, 153, 154, 155, 156, 157, 158, 159, 160, 161, 162, 163] rfl (by decide +kernel)
set_option maxRecDepth 20000 in
theorem ggX13_value_X13_isSpot : GoodIn wsX13_value wsX13_isSpot := goodIn_r _ [15, 16, 10, 11, 7, 12] rfl (by decide +kernel)
set_option maxRecDepth 40000 in
theorem ggX13_value_X13_laysWorths_0 : GoodIn wsX13_value [.code yX13_laysWorths cX13_laysWorths 6 none] := goodIn_r _ [24] rfl (by decide +kernel)
set_option maxRecDepth 40000 in
theorem ggX13_value_X13_laysWorths_1 : GoodIn wsX13_value wsX13_laysWorths_r1 := goodIn_r _ [25, 26, 1, 2, 27, 3, 28, 29, 30, 31, 7, 32, 9, 33, 34, 35, 36, 37, 38, 39, 40, 41, 42, 43] rfl (by decide +kernel)
set_option maxRecDepth 40000 in
theorem ggX13_value_X13_laysWorths_2 : GoodIn wsX13_value wsX13_laysWorths_r2 := goodIn_r _ [44, 45, 46, 47, 48, 49, 50, 51, 52, 53, 54, 55, 56, 57, 58, 59, 60, 61, 62, 63, 64, 65, 66, 67] rfl (by decide +kernel)
set_option maxRecDepth 40000 in
theorem ggX13_value_X13_laysWorths_3 : GoodIn wsX13_value wsX13_laysWorths_r3 := goodIn_r _ [68, 69, 70, 71, 72, 73, 74, 75, 76, 77, 78, 79, 80, 81, 82, 83, 84, 85, 86, 87, 88, 89, 90, 91] rfl (by decide +kernel)
set_option maxRecDepth 40000 in
theorem ggX13_value_X13_laysWorths_4 : GoodIn wsX13_value wsX13_laysWorths_r4 := goodIn_r _ [92, 93, 94, 95, 96, 97, 98, 99, 100, 101, 102, 103, 104, 105, 106, 107, 108, 109, 110, 111, 112, 113, 114, 115] rfl (by decide +kernel)
set_option maxRecDepth 40000 in
theorem ggX13_value_X13_laysWorths_5 : GoodIn wsX13_value wsX13_laysWorths_r5 := goodIn_r _ [116, 117, 118] rfl (by decide +kernel)
set_option maxRecDepth 40000 in
theorem ggX13_value_X13_laysWorths_6 : GoodIn wsX13_value wsX130 := goodIn_r _ [119, 120, 121, 122, 123, 124, 125, 126, 127, 128, 129, 130, 131, 132, 133, 134, 135, 136, 137, 138, 139, 140, 141, 142, 143, 144, 145, 146, 147, 148, 149, 150, 151, 152, 153, 154, 155, 156, 157, 158, 159, 160, 161, 162, 163] rfl (by decide +kernel)
set_option maxRecDepth 40000 in
theorem ggX13_value_X13_laysWorths : GoodIn wsX13_value wsX13_laysWorths := (goodIn_app ggX13_value_X13_laysWorths_0 (goodIn_app (goodIn_app ggX13_value_X13_laysWorths_1 (goodIn_app ggX13_value_X13_laysWorths_2 (goodIn_app ggX13_value_X13_laysWorths_3 (goodIn_app ggX13_value_X13_laysWorths_4 ggX13_value_X13_laysWorths_5)))) ggX13_value_X13_laysWorths_6))
set_option maxRecDepth 20000 in
theorem ggX13_value_X13_refused : GoodIn wsX13_value wsX13_refused := goodIn_r _ [19, 20] rfl (by decide +kernel)
set_option maxRecDepth 20000 in
theorem gX13_value_X13_at : GoodIn wsX13_value (va_wsS RX13 239 yX13_at wsX13_at) := goodIn_app (goodIn_of _ (by decide +kernel)) ggX13_value_X13_at
set_option maxRecDepth 20000 in
theorem gX13_value_X13_in : GoodIn wsX13_value (va_wsS RX13 175 yX13_in wsX13_in) := goodIn_app (goodIn_of _ (by decide +kernel)) ggX13_value_X13_in
set_option maxRecDepth 20000 in
theorem gX13_value_X13_isClause : GoodIn wsX13_value (wsV RX13 233 RX13 yX13_isClause wsX13_isClause) := goodIn_app (goodIn_r _ [4, 5, 6, 7] rfl (by decide +kernel)) ggX13_value_X13_isClause
set_option maxRecDepth 20000 in
theorem gX13_value_X13_isSpot : GoodIn wsX13_value (va_wsS RX13 188 yX13_isSpot wsX13_isSpot) := goodIn_app (goodIn_of _ (by decide +kernel)) ggX13_value_X13_isSpot
set_option maxRecDepth 20000 in
theorem gX13_value_X13_laysWorths : GoodIn wsX13_value (wsV RX13 274 RX13 yX13_laysWorths wsX13_laysWorths) := goodIn_app (goodIn_r _ [21, 22, 23, 7] rfl (by decide +kernel)) ggX13_value_X13_laysWorths
set_option maxRecDepth 20000 in
theorem gX13_value_X13_refused : GoodIn wsX13_value (va_wsS RX13 270 yX13_refused wsX13_refused) := goodIn_app (goodIn_of _ (by decide +kernel)) ggX13_value_X13_refused
theorem hs_X13_refused : yX13_refused.cls ≠ "java/lang/invoke/MethodHandle" ∧ yX13_refused.cls ≠ "java/lang/invoke/VarHandle" ∧ (parseMethodDescriptor yX13_refused.desc).map (fun d => d.parameters.length) = some 1 := by decide +kernel
theorem hv_X13_laysWorths : yX13_laysWorths.cls = RX13 ∧ yX13_laysWorths.cls ≠ "java/lang/invoke/MethodHandle" ∧ yX13_laysWorths.cls ≠ "java/lang/invoke/VarHandle" ∧ (parseMethodDescriptor yX13_laysWorths.desc).map (fun d => d.parameters.length) = some 1 := by decide +kernel
set_option maxRecDepth 20000 in
theorem in_X13_value_X13 : ∀ w ∈ wsX130, w ∈ wsX13_value := sub_r [119, 120, 121, 122, 123, 124, 125, 126, 127, 128, 129, 130, 131, 132, 133, 134, 135, 136, 137, 138, 139, 140, 141, 142, 143, 144, 145, 146, 147, 148, 149, 150, 151, 152, 153, 154, 155, 156, 157, 158, 159, 160, 161, 162, 163] rfl
set_option maxHeartbeats 4000000 in
set_option maxRecDepth 100000 in
theorem c_X13_value (l : Launch) (D : va_G) (T : Nat → ClassId) (sz : Nat) (h0 : Nat) (q : Nat → Int32) (v : Int64) (w : Int64) (a : Nat → Nat) (f8 : Nat → Int32) (f9 : Nat → Int32) (f10 : Nat → Int32) (f11 : Nat → Int32) (f17 : Nat → Int32) (f18 : Nat → Int32) (f19 : Nat → Int32) (f20 : Nat → Int64) (f21 : Nat → Int64) (f22 : Nat → Int32) (x1 : Int32) (x2 : Int32) (x3 : Int32) (x4 : Int32) (hB : isB (q 14)) (hm : 0 ≤ (q 7).toInt ∧ (q 7).toInt ≤ 24) (hokR : okR f8 f10 f11) (hZ : ∀ j : Nat, isB (f22 j)) (hL : (1 ≤ (q 4).toInt ∧ (q 4).toInt ≤ 9) ∧ 1 ≤ (q 6).toInt ∧ (q 6).toInt ≤ 9) : Met l yX13_value wsX13_value ({ frames := 134, cells := 0, slots := 0, locals := 5283 }) (pW [.ref h0, .int x1, .int x2, .int x3, .int x4] D T [(h0, .inr (10, (Value.int (q 0) :: Value.int (q 1) :: Value.int (q 2) :: Value.int (q 3) :: Value.int (q 4) :: Value.int (q 5) :: Value.int (q 6) :: Value.int (q 7) :: Value.ref (a 8) :: Value.ref (a 9) :: Value.ref (a 10) :: Value.ref (a 11) :: Value.ref (a 12) :: Value.ref (a 13) :: Value.int (q 14) :: Value.long v :: Value.long w :: Value.ref (a 17) :: Value.ref (a 18) :: Value.ref (a 19) :: Value.ref (a 20) :: Value.ref (a 21) :: Value.ref (a 22) :: Value.ref (a 23) :: Value.int (q 24) :: Value.ref (a 25) :: Value.int (q 26) :: Value.ref (a 27) :: Value.int (q 28) :: Value.int (q 29) :: Value.int (q 30) :: Value.int (q 31) :: Value.int (q 32) :: Value.int (q 33) :: Value.ref (a 34) :: Value.ref (a 35) :: Value.ref (a 36) :: Value.ref (a 37) :: Value.ref (a 38) :: Value.ref (a 39) :: Value.ref (a 40) :: Value.int (q 41) :: Value.ref (a 42) :: Value.int (q 43) :: Value.int (q 44) :: []))), ((a 8), .inl (T 0, 24, .inl f8)), ((a 9), .inl (T 0, 24, .inl f9)), ((a 10), .inl (T 0, 24, .inl f10)), ((a 11), .inl (T 0, 24, .inl f11)), ((a 17), .inl (T 0, 24, .inl f17)), ((a 18), .inl (T 0, 24, .inl f18)), ((a 19), .inl (T 0, 24, .inl f19)), ((a 20), .inl (T 1, 672, .inr (.inl f20))), ((a 21), .inl (T 1, 672, .inr (.inl f21))), ((a 22), .inl (T 4, 672, .inl f22))] sz) (va_Ql (fun (r : Int64) (u : (Int32) × (Int64) × (Int64) × (Nat → Int32) × (Nat → Int32) × (Nat → Int32) × (Nat → Int64) × (Nat → Int64) × (Nat → Int32)) => (isB u.1) ∧ (∀ j : Nat, isB (u.2.2.2.2.2.2.2.2 j)) ∧ (atV (q 7) x1 x2 x3 ∧ 0 ≤ x4.toInt ∧ x4.toInt ≤ 1 → ∀ j : Nat, (j : Int) < (q 7).toInt → mesP f8 f9 f10 f11 u.2.2.2.1 u.2.2.2.2.1 u.2.2.2.2.2.1 j) ∧ (valQ (VALW (lqW (q 0) (q 1) (q 2) (q 3) (q 4) (q 5) (q 6)) f8 f9 f10 f11 u.2.2.2.1) (q 7) x1 x2 x3 x4 r)) (bW D (va_A [(h0, .inr (10, (Value.int (q 0) :: Value.int (q 1) :: Value.int (q 2) :: Value.int (q 3) :: Value.int (q 4) :: Value.int (q 5) :: Value.int (q 6) :: Value.int (q 7) :: Value.ref (a 8) :: Value.ref (a 9) :: Value.ref (a 10) :: Value.ref (a 11) :: Value.ref (a 12) :: Value.ref (a 13) :: Value.int (q 14) :: Value.long v :: Value.long w :: Value.ref (a 17) :: Value.ref (a 18) :: Value.ref (a 19) :: Value.ref (a 20) :: Value.ref (a 21) :: Value.ref (a 22) :: Value.ref (a 23) :: Value.int (q 24) :: Value.ref (a 25) :: Value.int (q 26) :: Value.ref (a 27) :: Value.int (q 28) :: Value.int (q 29) :: Value.int (q 30) :: Value.int (q 31) :: Value.int (q 32) :: Value.int (q 33) :: Value.ref (a 34) :: Value.ref (a 35) :: Value.ref (a 36) :: Value.ref (a 37) :: Value.ref (a 38) :: Value.ref (a 39) :: Value.ref (a 40) :: Value.int (q 41) :: Value.ref (a 42) :: Value.int (q 43) :: Value.int (q 44) :: []))), ((a 8), .inl (T 0, 24, .inl f8)), ((a 9), .inl (T 0, 24, .inl f9)), ((a 10), .inl (T 0, 24, .inl f10)), ((a 11), .inl (T 0, 24, .inl f11)), ((a 17), .inl (T 0, 24, .inl f17)), ((a 18), .inl (T 0, 24, .inl f18)), ((a 19), .inl (T 0, 24, .inl f19)), ((a 20), .inl (T 1, 672, .inr (.inl f20))), ((a 21), .inl (T 1, 672, .inr (.inl f21))), ((a 22), .inl (T 4, 672, .inl f22))] sz) (fun (u : (Int32) × (Int64) × (Int64) × (Nat → Int32) × (Nat → Int32) × (Nat → Int32) × (Nat → Int64) × (Nat → Int64) × (Nat → Int32)) => [(h0, .inr (10, (Value.int (q 0) :: Value.int (q 1) :: Value.int (q 2) :: Value.int (q 3) :: Value.int (q 4) :: Value.int (q 5) :: Value.int (q 6) :: Value.int (q 7) :: Value.ref (a 8) :: Value.ref (a 9) :: Value.ref (a 10) :: Value.ref (a 11) :: Value.ref (a 12) :: Value.ref (a 13) :: Value.int u.1 :: Value.long u.2.1 :: Value.long u.2.2.1 :: Value.ref (a 17) :: Value.ref (a 18) :: Value.ref (a 19) :: Value.ref (a 20) :: Value.ref (a 21) :: Value.ref (a 22) :: Value.ref (a 23) :: Value.int (q 24) :: Value.ref (a 25) :: Value.int (q 26) :: Value.ref (a 27) :: Value.int (q 28) :: Value.int (q 29) :: Value.int (q 30) :: Value.int (q 31) :: Value.int (q 32) :: Value.int (q 33) :: Value.ref (a 34) :: Value.ref (a 35) :: Value.ref (a 36) :: Value.ref (a 37) :: Value.ref (a 38) :: Value.ref (a 39) :: Value.ref (a 40) :: Value.int (q 41) :: Value.ref (a 42) :: Value.int (q 43) :: Value.int (q 44) :: []))), ((a 8), .inl (T 0, 24, .inl f8)), ((a 9), .inl (T 0, 24, .inl f9)), ((a 10), .inl (T 0, 24, .inl f10)), ((a 11), .inl (T 0, 24, .inl f11)), ((a 17), .inl (T 0, 24, .inl u.2.2.2.1)), ((a 18), .inl (T 0, 24, .inl u.2.2.2.2.1)), ((a 19), .inl (T 0, 24, .inl u.2.2.2.2.2.1)), ((a 20), .inl (T 1, 672, .inr (.inl u.2.2.2.2.2.2.1))), ((a 21), .inl (T 1, 672, .inr (.inl u.2.2.2.2.2.2.2.1))), ((a 22), .inl (T 4, 672, .inl u.2.2.2.2.2.2.2.2))])) (va_A [(h0, .inr (10, (Value.int (q 0) :: Value.int (q 1) :: Value.int (q 2) :: Value.int (q 3) :: Value.int (q 4) :: Value.int (q 5) :: Value.int (q 6) :: Value.int (q 7) :: Value.ref (a 8) :: Value.ref (a 9) :: Value.ref (a 10) :: Value.ref (a 11) :: Value.ref (a 12) :: Value.ref (a 13) :: Value.int (q 14) :: Value.long v :: Value.long w :: Value.ref (a 17) :: Value.ref (a 18) :: Value.ref (a 19) :: Value.ref (a 20) :: Value.ref (a 21) :: Value.ref (a 22) :: Value.ref (a 23) :: Value.int (q 24) :: Value.ref (a 25) :: Value.int (q 26) :: Value.ref (a 27) :: Value.int (q 28) :: Value.int (q 29) :: Value.int (q 30) :: Value.int (q 31) :: Value.int (q 32) :: Value.int (q 33) :: Value.ref (a 34) :: Value.ref (a 35) :: Value.ref (a 36) :: Value.ref (a 37) :: Value.ref (a 38) :: Value.ref (a 39) :: Value.ref (a 40) :: Value.int (q 41) :: Value.ref (a 42) :: Value.int (q 43) :: Value.int (q 44) :: []))), ((a 8), .inl (T 0, 24, .inl f8)), ((a 9), .inl (T 0, 24, .inl f9)), ((a 10), .inl (T 0, 24, .inl f10)), ((a 11), .inl (T 0, 24, .inl f11)), ((a 17), .inl (T 0, 24, .inl f17)), ((a 18), .inl (T 0, 24, .inl f18)), ((a 19), .inl (T 0, 24, .inl f19)), ((a 20), .inl (T 1, 672, .inr (.inl f20))), ((a 21), .inl (T 1, 672, .inr (.inl f21))), ((a 22), .inl (T 4, 672, .inl f22))] sz)) 0 0 (va_A [(h0, .inr (10, (Value.int (q 0) :: Value.int (q 1) :: Value.int (q 2) :: Value.int (q 3) :: Value.int (q 4) :: Value.int (q 5) :: Value.int (q 6) :: Value.int (q 7) :: Value.ref (a 8) :: Value.ref (a 9) :: Value.ref (a 10) :: Value.ref (a 11) :: Value.ref (a 12) :: Value.ref (a 13) :: Value.int (q 14) :: Value.long v :: Value.long w :: Value.ref (a 17) :: Value.ref (a 18) :: Value.ref (a 19) :: Value.ref (a 20) :: Value.ref (a 21) :: Value.ref (a 22) :: Value.ref (a 23) :: Value.int (q 24) :: Value.ref (a 25) :: Value.int (q 26) :: Value.ref (a 27) :: Value.int (q 28) :: Value.int (q 29) :: Value.int (q 30) :: Value.int (q 31) :: Value.int (q 32) :: Value.int (q 33) :: Value.ref (a 34) :: Value.ref (a 35) :: Value.ref (a 36) :: Value.ref (a 37) :: Value.ref (a 38) :: Value.ref (a 39) :: Value.ref (a 40) :: Value.int (q 41) :: Value.ref (a 42) :: Value.int (q 43) :: Value.int (q 44) :: []))), ((a 8), .inl (T 0, 24, .inl f8)), ((a 9), .inl (T 0, 24, .inl f9)), ((a 10), .inl (T 0, 24, .inl f10)), ((a 11), .inl (T 0, 24, .inl f11)), ((a 17), .inl (T 0, 24, .inl f17)), ((a 18), .inl (T 0, 24, .inl f18)), ((a 19), .inl (T 0, 24, .inl f19)), ((a 20), .inl (T 1, 672, .inr (.inl f20))), ((a 21), .inl (T 1, 672, .inr (.inl f21))), ((a 22), .inl (T 4, 672, .inl f22))] sz) := by
  refine Met.ofW (cc := cX13_value) (maxL := 6) (ret := (some .long)) (by decide +kernel) rfl ?_
  intro p e s m args below meth c s₁ B hml hv
  obtain ⟨rfl, hsz, hP, hE, hD0⟩ := hv
  have hx := B.exec
  have hb := B.bytes
  have hr := B.returns
  have hts := atoms_spec (ws := wsX13_value) B.pre
  have hown : s.vm.findClass RX13 = some m.cls := findClass_of_methodNamed B.named
  have hlocks := B.notSynchronized
  subst hsz
  have hD := hD0.self (sz := s.heap.size)
  generalize hAe : va_A [(h0, .inr (10, (Value.int (q 0) :: Value.int (q 1) :: Value.int (q 2) :: Value.int (q 3) :: Value.int (q 4) :: Value.int (q 5) :: Value.int (q 6) :: Value.int (q 7) :: Value.ref (a 8) :: Value.ref (a 9) :: Value.ref (a 10) :: Value.ref (a 11) :: Value.ref (a 12) :: Value.ref (a 13) :: Value.int (q 14) :: Value.long v :: Value.long w :: Value.ref (a 17) :: Value.ref (a 18) :: Value.ref (a 19) :: Value.ref (a 20) :: Value.ref (a 21) :: Value.ref (a 22) :: Value.ref (a 23) :: Value.int (q 24) :: Value.ref (a 25) :: Value.int (q 26) :: Value.ref (a 27) :: Value.int (q 28) :: Value.int (q 29) :: Value.int (q 30) :: Value.int (q 31) :: Value.int (q 32) :: Value.int (q 33) :: Value.ref (a 34) :: Value.ref (a 35) :: Value.ref (a 36) :: Value.ref (a 37) :: Value.ref (a 38) :: Value.ref (a 39) :: Value.ref (a 40) :: Value.int (q 41) :: Value.ref (a 42) :: Value.int (q 43) :: Value.int (q 44) :: []))), ((a 8), .inl (T 0, 24, .inl f8)), ((a 9), .inl (T 0, 24, .inl f9)), ((a 10), .inl (T 0, 24, .inl f10)), ((a 11), .inl (T 0, 24, .inl f11)), ((a 17), .inl (T 0, 24, .inl f17)), ((a 18), .inl (T 0, 24, .inl f18)), ((a 19), .inl (T 0, 24, .inl f19)), ((a 20), .inl (T 1, 672, .inr (.inl f20))), ((a 21), .inl (T 1, 672, .inr (.inl f21))), ((a 22), .inl (T 4, 672, .inl f22))] s.heap.size = A at hD ⊢
  have hA : ∀ q : Nat, s.heap.size ≤ q → A q := fun q h => by rw [← hAe]; exact Or.inr h
  have hS : va_S A s.heap s.heap [] := va_S.rf
  have hP : va_P D vwCl [(h0, .inr (10, (Value.int (q 0) :: Value.int (q 1) :: Value.int (q 2) :: Value.int (q 3) :: Value.int (q 4) :: Value.int (q 5) :: Value.int (q 6) :: Value.int (q 7) :: Value.ref (a 8) :: Value.ref (a 9) :: Value.ref (a 10) :: Value.ref (a 11) :: Value.ref (a 12) :: Value.ref (a 13) :: Value.int (q 14) :: Value.long v :: Value.long w :: Value.ref (a 17) :: Value.ref (a 18) :: Value.ref (a 19) :: Value.ref (a 20) :: Value.ref (a 21) :: Value.ref (a 22) :: Value.ref (a 23) :: Value.int (q 24) :: Value.ref (a 25) :: Value.int (q 26) :: Value.ref (a 27) :: Value.int (q 28) :: Value.int (q 29) :: Value.int (q 30) :: Value.int (q 31) :: Value.int (q 32) :: Value.int (q 33) :: Value.ref (a 34) :: Value.ref (a 35) :: Value.ref (a 36) :: Value.ref (a 37) :: Value.ref (a 38) :: Value.ref (a 39) :: Value.ref (a 40) :: Value.int (q 41) :: Value.ref (a 42) :: Value.int (q 43) :: Value.int (q 44) :: []))), ((a 8), .inl (T 0, 24, .inl f8)), ((a 9), .inl (T 0, 24, .inl f9)), ((a 10), .inl (T 0, 24, .inl f10)), ((a 11), .inl (T 0, 24, .inl f11)), ((a 17), .inl (T 0, 24, .inl f17)), ((a 18), .inl (T 0, 24, .inl f18)), ((a 19), .inl (T 0, 24, .inl f19)), ((a 20), .inl (T 1, 672, .inr (.inl f20))), ((a 21), .inl (T 1, 672, .inr (.inl f21))), ((a 22), .inl (T 4, 672, .inl f22))] s.heap := hP
  have hl := lv_entry ([.ref h0, .int x1, .int x2, .int x3, .int x4]) (n := 6) (Nat.le_of_ble_eq_true rfl)
  rw [lg_entry_eq]
  generalize (lg_sl ([.ref h0, .int x1, .int x2, .int x3, .int x4]) ++ List.replicate (6 - (lg_sl ([.ref h0, .int x1, .int x2, .int x3, .int x4])).length) Slot.unset).toArray = ls at hl ⊢
  have hl : lv_has ls 6 [(0, .ref h0), (1, .int x1), (2, .int x2), (3, .int x3), (4, .int x4)] := hl
  clear hD0
  refine lv_aload_n hx hb dX13_value_0 rfl (lv_at hl 0 rfl) ?_
  refine lv_iload_n hx hb dX13_value_1 rfl (lv_at hl 1 rfl) ?_
  refine vp_callSi (W.runV (As := [.int x1]) (rest := []) ⟨hx, hb, hml, hown, hts⟩ (c_X13_isClause l D T h0 [.int (q 0), .int (q 1), .int (q 2), .int (q 3), .int (q 4), .int (q 5), .int (q 6), .int (q 7), .ref (a 8), .ref (a 9), .ref (a 10), .ref (a 11), .ref (a 12), .ref (a 13), .int (q 14), .long v, .long w, .ref (a 17), .ref (a 18), .ref (a 19), .ref (a 20), .ref (a 21), .ref (a 22), .ref (a 23), .int (q 24), .ref (a 25), .int (q 26), .ref (a 27), .int (q 28), .int (q 29), .int (q 30), .int (q 31), .int (q 32), .int (q 33), .ref (a 34), .ref (a 35), .ref (a 36), .ref (a 37), .ref (a 38), .ref (a 39), .ref (a 40), .int (q 41), .ref (a 42), .int (q 43), .int (q 44)] x1 (q 7) rfl (by omega)) (cwV 1 hts gX13_value_X13_isClause rfl rfl rfl hv_X13_isClause ⟨Nat.le_of_ble_eq_true rfl, Nat.le_of_ble_eq_true rfl⟩) (pR_V (q := (RX13, TX13, 45)) (ci := 10) (q0 := 0) hP hE rfl rfl [0] rfl) rfl rfl hl.1 rfl (lv_room (Nat.le_of_ble_eq_true rfl)) dX13_value_2 ⟨Nat.le_of_ble_eq_true rfl, Nat.le_of_ble_eq_true rfl⟩) (fun r_1 hr_1 => ?_)
  rcases bool_post hr_1 with ⟨c_2, rfl⟩ | ⟨c_2, rfl⟩
  · refine lv_if_eq (tgt := 27) hx hb dX13_value_5 (by decide +kernel) (fun c9 => absurd c9 (by decide +kernel)) (fun _ => ?_)
    refine lv_iload_n hx hb dX13_value_8 rfl (lv_at hl 2 rfl) ?_
    refine lv_iload_n hx hb dX13_value_9 rfl (lv_at hl 3 rfl) ?_
    refine vp_callSi (W.runS (As := [.int x2, .int x3]) (rest := []) ⟨hx, hb, hml, hown, hts⟩ (c_X13_isSpot l D T x2 x3) (va_cwS 2 hts gX13_value_X13_isSpot rfl rfl rfl hs_X13_isSpot ⟨Nat.le_of_ble_eq_true rfl, Nat.le_of_ble_eq_true rfl⟩) (pR_S hP hE [] rfl) rfl rfl hl.1 rfl (lv_room (Nat.le_of_ble_eq_true rfl)) dX13_value_10 ⟨Nat.le_of_ble_eq_true rfl, Nat.le_of_ble_eq_true rfl⟩) (fun r_3 hr_3 => ?_)
    rcases bool_post hr_3 with ⟨c_4, rfl⟩ | ⟨c_4, rfl⟩
    · refine lv_if_eq (tgt := 27) hx hb dX13_value_13 (by decide +kernel) (fun c9 => absurd c9 (by decide +kernel)) (fun _ => ?_)
      refine lv_iload hx hb dX13_value_16 (lv_at hl 4 rfl) ?_
      refine lv_i2l hx hb dX13_value_18 rfl ?_
      refine lv_lconst (v := 0) hx hb dX13_value_19 (by decide +kernel) ?_
      refine lv_lconst (v := 1) hx hb dX13_value_20 (by decide +kernel) ?_
      refine vp_callSi (W.runS (As := [.long (x4.toInt64), .long 0, .long 1]) (rest := []) ⟨hx, hb, hml, hown, hts⟩ (c_X13_in l D T (x4.toInt64) 0 1 x4.toInt 0 1 ((Int32.toInt_toInt64 _).trans rfl) (by decide +kernel) (by decide +kernel)) (va_cwS 3 hts gX13_value_X13_in rfl rfl rfl hs_X13_in ⟨Nat.le_of_ble_eq_true rfl, Nat.le_of_ble_eq_true rfl⟩) (pR_S hP hE [] rfl) rfl rfl hl.1 rfl (lv_room (Nat.le_of_ble_eq_true rfl)) dX13_value_21 ⟨Nat.le_of_ble_eq_true rfl, Nat.le_of_ble_eq_true rfl⟩) (fun r_5 hr_5 => ?_)
      rcases bool_post hr_5 with ⟨c_6, rfl⟩ | ⟨c_6, rfl⟩
      · refine lv_if_ne (tgt := 33) hx hb dX13_value_24 (by decide +kernel) (fun _ => ?_) (fun c9 => absurd c9 (by decide +kernel))
        refine lv_aload_n hx hb dX13_value_33 rfl (lv_at hl 0 rfl) ?_
        refine lv_iload_n hx hb dX13_value_34 rfl (lv_at hl 1 rfl) ?_
        have hFc := va_free (wc := [(h0, .inr (10, (Value.int (q 0) :: Value.int (q 1) :: Value.int (q 2) :: Value.int (q 3) :: Value.int (q 4) :: Value.int (q 5) :: Value.int (q 6) :: Value.int (q 7) :: Value.ref (a 8) :: Value.ref (a 9) :: Value.ref (a 10) :: Value.ref (a 11) :: Value.ref (a 12) :: Value.ref (a 13) :: Value.int (q 14) :: Value.long v :: Value.long w :: Value.ref (a 17) :: Value.ref (a 18) :: Value.ref (a 19) :: Value.ref (a 20) :: Value.ref (a 21) :: Value.ref (a 22) :: Value.ref (a 23) :: Value.int (q 24) :: Value.ref (a 25) :: Value.int (q 26) :: Value.ref (a 27) :: Value.int (q 28) :: Value.int (q 29) :: Value.int (q 30) :: Value.int (q 31) :: Value.int (q 32) :: Value.int (q 33) :: Value.ref (a 34) :: Value.ref (a 35) :: Value.ref (a 36) :: Value.ref (a 37) :: Value.ref (a 38) :: Value.ref (a 39) :: Value.ref (a 40) :: Value.int (q 41) :: Value.ref (a 42) :: Value.int (q 43) :: Value.int (q 44) :: []))), ((a 8), .inl (T 0, 24, .inl f8)), ((a 9), .inl (T 0, 24, .inl f9)), ((a 10), .inl (T 0, 24, .inl f10)), ((a 11), .inl (T 0, 24, .inl f11)), ((a 17), .inl (T 0, 24, .inl f17)), ((a 18), .inl (T 0, 24, .inl f18)), ((a 19), .inl (T 0, 24, .inl f19)), ((a 20), .inl (T 1, 672, .inr (.inl f20))), ((a 21), .inl (T 1, 672, .inr (.inl f21))), ((a 22), .inl (T 4, 672, .inl f22))]) hD hS hA [0, 1, 2, 3, 4, 5, 6, 7, 8, 9, 10] rfl
        refine va_callv (va_runV (As := [.int x1]) (rest := []) ⟨hx, hb, hml, hown, hts⟩ (c_X13_laysWorths l D T _ h0 q v w a f8 f9 f10 f11 f17 f18 f19 f20 f21 f22 x1 (show 0 ≤ (q 7).toInt ∧ (q 7).toInt ≤ 24 from (by omega)) (show okR f8 f10 f11 from hokR) (show ∀ j : Nat, isB (f22 j) from hZ) (show (1 ≤ (q 4).toInt ∧ (q 4).toInt ≤ 9) ∧ 1 ≤ (q 6).toInt ∧ (q 6).toInt ≤ 9 from (by omega)) (show -1 ≤ x1.toInt ∧ x1.toInt < (q 7).toInt from (by omega))) (cwV 1 hts gX13_value_X13_laysWorths rfl rfl rfl hv_X13_laysWorths ⟨Nat.le_of_ble_eq_true rfl, Nat.le_of_ble_eq_true rfl⟩) (pW_V (q := (RX13, TX13, 45)) (ci := 10) (q0 := 0) hP hE hD rfl rfl [0, 1, 2, 3, 4, 5, 6, 7, 8, 9, 10] (by decide +kernel) rfl rfl) rfl rfl hl.1 rfl (lv_room (Nat.le_of_ble_eq_true rfl)) dX13_value_35 ⟨Nat.le_of_ble_eq_true rfl, Nat.le_of_ble_eq_true rfl⟩) hS (fun q _ h => hFc q h) hFc (fun u_8 t H1 locs ht hvm hr_7 hB hz1 hk1 hS => ?_)
        obtain ⟨l_9, l_10, f_11, f_12, f_13, f_14, f_15, f_16⟩ := u_8
        obtain ⟨hi0_r_7, hi1_r_7, hi2_r_7, hi3_r_7, hi4_r_7⟩ := hr_7
        have hZ : ∀ j : Nat, isB (f_16 j) := hi0_r_7
        have hEE : okE f8 f10 f_11 (q 7).toInt := hi1_r_7
        have hW1 : ∀ j : Nat, (j : Int) < 28 * (x1.toInt + 1) → 1 ≤ (f_15 j).toInt := hi2_r_7
        have hTV : ∀ y t s : Int32, spK t s → 0 ≤ y.toInt → y.toInt ≤ x1.toInt → tabW f_14 f_15 f_16 y t s = VALW (lqW (q 0) (q 1) (q 2) (q 3) (q 4) (q 5) (q 6)) f8 f9 f10 f11 f_11 y t s := hi3_r_7
        have hMEr : ∀ j : Nat, (j : Int) < (q 7).toInt → mesP f8 f9 f10 f11 f_11 f_12 f_13 j := hi4_r_7
        obtain ⟨hP1, hD1⟩ := hB
        rw [ht] at hP1
        obtain ⟨hP, hD⟩ := va_repl [(h0, .inr (10, (Value.int (q 0) :: Value.int (q 1) :: Value.int (q 2) :: Value.int (q 3) :: Value.int (q 4) :: Value.int (q 5) :: Value.int (q 6) :: Value.int (q 7) :: Value.ref (a 8) :: Value.ref (a 9) :: Value.ref (a 10) :: Value.ref (a 11) :: Value.ref (a 12) :: Value.ref (a 13) :: Value.int 0 :: Value.long l_9 :: Value.long l_10 :: Value.ref (a 17) :: Value.ref (a 18) :: Value.ref (a 19) :: Value.ref (a 20) :: Value.ref (a 21) :: Value.ref (a 22) :: Value.ref (a 23) :: Value.int (q 24) :: Value.ref (a 25) :: Value.int (q 26) :: Value.ref (a 27) :: Value.int (q 28) :: Value.int (q 29) :: Value.int (q 30) :: Value.int (q 31) :: Value.int (q 32) :: Value.int (q 33) :: Value.ref (a 34) :: Value.ref (a 35) :: Value.ref (a 36) :: Value.ref (a 37) :: Value.ref (a 38) :: Value.ref (a 39) :: Value.ref (a 40) :: Value.int (q 41) :: Value.ref (a 42) :: Value.int (q 43) :: Value.int (q 44) :: []))), ((a 8), .inl (T 0, 24, .inl f8)), ((a 9), .inl (T 0, 24, .inl f9)), ((a 10), .inl (T 0, 24, .inl f10)), ((a 11), .inl (T 0, 24, .inl f11)), ((a 17), .inl (T 0, 24, .inl f_11)), ((a 18), .inl (T 0, 24, .inl f_12)), ((a 19), .inl (T 0, 24, .inl f_13)), ((a 20), .inl (T 1, 672, .inr (.inl f_14))), ((a 21), .inl (T 1, 672, .inr (.inl f_15))), ((a 22), .inl (T 4, 672, .inl f_16))] hP hD [0, 1, 2, 3, 4, 5, 6, 7, 8, 9, 10] [0, 1, 2, 3, 4, 5, 6, 7, 8, 9, 10] rfl (by decide +kernel) rfl rfl rfl hk1 hP1
        clear hP1 hD1 hFc
        generalize H1 = H at hP hS ⊢
        refine lv_iload_n hx hb dX13_value_38 rfl (lv_at hl 1 rfl) ?_
        refine lv_iload_n hx hb dX13_value_39 rfl (lv_at hl 2 rfl) ?_
        refine lv_iload_n hx hb dX13_value_40 rfl (lv_at hl 3 rfl) ?_
        refine vp_callSi (W.runS (As := [.int x1, .int x2, .int x3]) (rest := []) ⟨hx, hb, hml, hown, hts⟩ (c_X13_at l D T x1 x2 x3 (by (try simp only [ti_0]); omega) (by (try simp only [ti_0]); omega) (by (try simp only [ti_0]); omega)) (va_cwS 3 hts gX13_value_X13_at rfl rfl rfl hs_X13_at ⟨Nat.le_of_ble_eq_true rfl, Nat.le_of_ble_eq_true rfl⟩) (pR_S hP hE [] rfl) rfl rfl hl.1 rfl (lv_room (Nat.le_of_ble_eq_true rfl)) dX13_value_41 ⟨Nat.le_of_ble_eq_true rfl, Nat.le_of_ble_eq_true rfl⟩) (fun r_17 hr_17 => ?_)
        refine lv_istore (lv' := [(5, .int r_17), (0, .ref h0), (1, .int x1), (2, .int x2), (3, .int x3), (4, .int x4)]) hx hb dX13_value_44 hl (by decide +kernel) rfl (fun ls hl => ?_)
        have hsl9 : r_17.toNatClampNeg = slN x1 x2 x3 := at_sl (by omega) (by omega) (by omega) hr_17.1
        refine lv_aload_n hx hb dX13_value_46 rfl (lv_at hl 1 rfl) ?_
        refine va_get (D := D) (ci := 10) (v := .ref (a 22)) (C := RX13) (T := TX13) (N := 45) hx hb hts in_X13_value_X13 hown hE.1 hP 0 rfl rfl 22 (by decide +kernel) (hts (.fieldLink RX13 63 "ClauseBookModel" "worthMuch" "[Z") (List.mem_of_getElem? (i := 1) rfl)) (fun _ h9 => h9) rfl dX13_value_47 ?_
        refine lv_iload hx hb dX13_value_50 (lv_at hl 0 rfl) ?_
        refine va_zald hx hb hE.1 hP 10 4 rfl rfl (by rw [vp_in_iff]; first | omega | (subst_vars; omega)) dX13_value_52 ?_
        refine lv_topi (fun z_18 ez_18 => ?_)
        refine lv_if_eq (tgt := 64) hx hb dX13_value_53 (by decide +kernel) (fun c_19 => ?_) (fun c_19 => ?_)
        · rw [fa_eq] at c_19
          try rw [ti_0] at c_19
          refine lv_iload hx hb dX13_value_64 (lv_at hl 5 rfl) ?_
          refine lv_if_ne (tgt := 79) hx hb dX13_value_66 (by decide +kernel) (fun c_20 => ?_) (fun c_20 => ?_)
          · rw [fa_eq] at c_20
            try rw [ti_0] at c_20
            refine lv_aload_n hx hb dX13_value_79 rfl (lv_at hl 1 rfl) ?_
            refine va_get (D := D) (ci := 10) (v := .ref (a 21)) (C := RX13) (T := TX13) (N := 45) hx hb hts in_X13_value_X13 hown hE.1 hP 0 rfl rfl 21 (by decide +kernel) (hts (.fieldLink RX13 60 "ClauseBookModel" "worthBelow" "[J") (List.mem_of_getElem? (i := 3) rfl)) (fun _ h9 => h9) rfl dX13_value_80 ?_
            refine lv_iload hx hb dX13_value_83 (lv_at hl 0 rfl) ?_
            refine va_lald hx hb hE.1 hP 9 1 rfl rfl (by rw [vp_in_iff]; first | omega | (subst_vars; omega)) dX13_value_85 ?_
            refine lv_topl (fun z_21 ez_21 => ?_)
            exact W.lret hx hb hr (fun t ht hW => ⟨⟨_, (0, l_9, l_10, f_11, f_12, f_13, f_14, f_15, f_16), rfl, ⟨(show isB 0 from isB0), (show ∀ j : Nat, isB (f_16 j) from hZ), (show atV (q 7) x1 x2 x3 ∧ 0 ≤ x4.toInt ∧ x4.toInt ≤ 1 → ∀ j : Nat, (j : Int) < (q 7).toInt → mesP f8 f9 f10 f11 f_11 f_12 f_13 j from (fun _ => hMEr)), (show valQ (VALW (lqW (q 0) (q 1) (q 2) (q 3) (q 4) (q 5) (q 6)) f8 f9 f10 f11 f_11) (q 7) x1 x2 x3 x4 z_21 from (Or.inr ⟨⟨⟨(by omega), (by omega), (by omega)⟩, (by omega)⟩, partW_of (hTV x1 x2 x3 ⟨⟨(by omega), (by omega)⟩, (by omega), (by omega)⟩ (by omega) (by omega)) (part_v (by rw [← hsl9, ← ez_18]; omega) (by rw [← hsl9]; exact hW1 _ (by have h9 := tn (x := r_17) (by omega); omega)) (by first | exact Or.inl ⟨by omega, by rw [ez_21, hsl9]⟩ | exact Or.inr ⟨by omega, by rw [ez_21, hsl9]⟩))⟩))⟩, by rw [ht]; exact hP.sub [0, 1, 2, 3, 4, 5, 6, 7, 8, 9, 10] rfl, hD.sub [0, 1, 2, 3, 4, 5, 6, 7, 8, 9, 10] (by decide +kernel) rfl⟩, hS.F ht⟩) hS.2.2 dX13_value_86
          · rw [fa_eq] at c_20
            try rw [ti_0] at c_20
            refine lv_aload_n hx hb dX13_value_69 rfl (lv_at hl 1 rfl) ?_
            refine va_get (D := D) (ci := 10) (v := .ref (a 20)) (C := RX13) (T := TX13) (N := 45) hx hb hts in_X13_value_X13 hown hE.1 hP 0 rfl rfl 20 (by decide +kernel) (hts (.fieldLink RX13 56 "ClauseBookModel" "worthAbove" "[J") (List.mem_of_getElem? (i := 2) rfl)) (fun _ h9 => h9) rfl dX13_value_70 ?_
            refine lv_iload hx hb dX13_value_73 (lv_at hl 0 rfl) ?_
            refine va_lald hx hb hE.1 hP 8 1 rfl rfl (by rw [vp_in_iff]; first | omega | (subst_vars; omega)) dX13_value_75 ?_
            refine lv_topl (fun z_22 ez_22 => ?_)
            refine lv_goto (tgt := 86) hx hb dX13_value_76 (by decide +kernel) ?_
            exact W.lret hx hb hr (fun t ht hW => ⟨⟨_, (0, l_9, l_10, f_11, f_12, f_13, f_14, f_15, f_16), rfl, ⟨(show isB 0 from isB0), (show ∀ j : Nat, isB (f_16 j) from hZ), (show atV (q 7) x1 x2 x3 ∧ 0 ≤ x4.toInt ∧ x4.toInt ≤ 1 → ∀ j : Nat, (j : Int) < (q 7).toInt → mesP f8 f9 f10 f11 f_11 f_12 f_13 j from (fun _ => hMEr)), (show valQ (VALW (lqW (q 0) (q 1) (q 2) (q 3) (q 4) (q 5) (q 6)) f8 f9 f10 f11 f_11) (q 7) x1 x2 x3 x4 z_22 from (Or.inr ⟨⟨⟨(by omega), (by omega), (by omega)⟩, (by omega)⟩, partW_of (hTV x1 x2 x3 ⟨⟨(by omega), (by omega)⟩, (by omega), (by omega)⟩ (by omega) (by omega)) (part_v (by rw [← hsl9, ← ez_18]; omega) (by rw [← hsl9]; exact hW1 _ (by have h9 := tn (x := r_17) (by omega); omega)) (by first | exact Or.inl ⟨by omega, by rw [ez_22, hsl9]⟩ | exact Or.inr ⟨by omega, by rw [ez_22, hsl9]⟩))⟩))⟩, by rw [ht]; exact hP.sub [0, 1, 2, 3, 4, 5, 6, 7, 8, 9, 10] rfl, hD.sub [0, 1, 2, 3, 4, 5, 6, 7, 8, 9, 10] (by decide +kernel) rfl⟩, hS.F ht⟩) hS.2.2 dX13_value_86
        · rw [fa_eq] at c_19
          try rw [ti_0] at c_19
          refine lv_bipush (v := (-5)) hx hb dX13_value_56 (by decide +kernel) ?_
          refine vp_callSl (W.runS (As := [.int (-5)]) (rest := []) ⟨hx, hb, hml, hown, hts⟩ (c_X13_refused l D T (-5) (by decide +kernel)) (va_cwS 1 hts gX13_value_X13_refused rfl rfl rfl hs_X13_refused ⟨Nat.le_of_ble_eq_true rfl, Nat.le_of_ble_eq_true rfl⟩) (pR_S hP hE [] rfl) rfl rfl hl.1 rfl (lv_room (Nat.le_of_ble_eq_true rfl)) dX13_value_58 ⟨Nat.le_of_ble_eq_true rfl, Nat.le_of_ble_eq_true rfl⟩) (fun r_23 hr_23 => ?_)
          refine lv_goto (tgt := 86) hx hb dX13_value_61 (by decide +kernel) ?_
          exact W.lret hx hb hr (fun t ht hW => ⟨⟨_, (0, l_9, l_10, f_11, f_12, f_13, f_14, f_15, f_16), rfl, ⟨(show isB 0 from isB0), (show ∀ j : Nat, isB (f_16 j) from hZ), (show atV (q 7) x1 x2 x3 ∧ 0 ≤ x4.toInt ∧ x4.toInt ≤ 1 → ∀ j : Nat, (j : Int) < (q 7).toInt → mesP f8 f9 f10 f11 f_11 f_12 f_13 j from (fun _ => hMEr)), (show valQ (VALW (lqW (q 0) (q 1) (q 2) (q 3) (q 4) (q 5) (q 6)) f8 f9 f10 f11 f_11) (q 7) x1 x2 x3 x4 r_23 from (Or.inr ⟨⟨⟨(by omega), (by omega), (by omega)⟩, (by omega)⟩, partW_of (hTV x1 x2 x3 ⟨⟨(by omega), (by omega)⟩, (by omega), (by omega)⟩ (by omega) (by omega)) (part_m (by rw [← hsl9, ← ez_18]; omega) (by have h8 := hr_23; rw [ti_n5] at h8; omega))⟩))⟩, by rw [ht]; exact hP.sub [0, 1, 2, 3, 4, 5, 6, 7, 8, 9, 10] rfl, hD.sub [0, 1, 2, 3, 4, 5, 6, 7, 8, 9, 10] (by decide +kernel) rfl⟩, hS.F ht⟩) hS.2.2 dX13_value_86
      · refine lv_if_ne (tgt := 33) hx hb dX13_value_24 (by decide +kernel) (fun c9 => absurd c9 (by decide +kernel)) (fun _ => ?_)
        refine lv_bipush (v := (-2)) hx hb dX13_value_27 (by decide +kernel) ?_
        refine vp_callSl (W.runS (As := [.int (-2)]) (rest := []) ⟨hx, hb, hml, hown, hts⟩ (c_X13_refused l D T (-2) (by decide +kernel)) (va_cwS 1 hts gX13_value_X13_refused rfl rfl rfl hs_X13_refused ⟨Nat.le_of_ble_eq_true rfl, Nat.le_of_ble_eq_true rfl⟩) (pR_S hP hE [] rfl) rfl rfl hl.1 rfl (lv_room (Nat.le_of_ble_eq_true rfl)) dX13_value_29 ⟨Nat.le_of_ble_eq_true rfl, Nat.le_of_ble_eq_true rfl⟩) (fun r_24 hr_24 => ?_)
        exact W.lret hx hb hr (fun t ht hW => ⟨⟨_, ((q 14), v, w, f17, f18, f19, f20, f21, f22), rfl, ⟨(show isB (q 14) from hB), (show ∀ j : Nat, isB (f22 j) from hZ), (show atV (q 7) x1 x2 x3 ∧ 0 ≤ x4.toInt ∧ x4.toInt ≤ 1 → ∀ j : Nat, (j : Int) < (q 7).toInt → mesP f8 f9 f10 f11 f17 f18 f19 j from (fun h9 => by exfalso; obtain ⟨⟨h1, h2, h3⟩, h4⟩ := h9; omega)), (show valQ (VALW (lqW (q 0) (q 1) (q 2) (q 3) (q 4) (q 5) (q 6)) f8 f9 f10 f11 f17) (q 7) x1 x2 x3 x4 r_24 from (Or.inl ⟨(fun h9 => by obtain ⟨⟨h1, h2, h3⟩, h4⟩ := h9; omega), (by have h8 := hr_24; rw [ti_n2] at h8; omega)⟩))⟩, by rw [ht]; exact hP.sub [0, 1, 2, 3, 4, 5, 6, 7, 8, 9, 10] rfl, hD.sub [0, 1, 2, 3, 4, 5, 6, 7, 8, 9, 10] (by decide +kernel) rfl⟩, hS.F ht⟩) hS.2.2 dX13_value_32
    · refine lv_if_eq (tgt := 27) hx hb dX13_value_13 (by decide +kernel) (fun _ => ?_) (fun c9 => absurd c9 (by decide +kernel))
      refine lv_bipush (v := (-2)) hx hb dX13_value_27 (by decide +kernel) ?_
      refine vp_callSl (W.runS (As := [.int (-2)]) (rest := []) ⟨hx, hb, hml, hown, hts⟩ (c_X13_refused l D T (-2) (by decide +kernel)) (va_cwS 1 hts gX13_value_X13_refused rfl rfl rfl hs_X13_refused ⟨Nat.le_of_ble_eq_true rfl, Nat.le_of_ble_eq_true rfl⟩) (pR_S hP hE [] rfl) rfl rfl hl.1 rfl (lv_room (Nat.le_of_ble_eq_true rfl)) dX13_value_29 ⟨Nat.le_of_ble_eq_true rfl, Nat.le_of_ble_eq_true rfl⟩) (fun r_25 hr_25 => ?_)
      exact W.lret hx hb hr (fun t ht hW => ⟨⟨_, ((q 14), v, w, f17, f18, f19, f20, f21, f22), rfl, ⟨(show isB (q 14) from hB), (show ∀ j : Nat, isB (f22 j) from hZ), (show atV (q 7) x1 x2 x3 ∧ 0 ≤ x4.toInt ∧ x4.toInt ≤ 1 → ∀ j : Nat, (j : Int) < (q 7).toInt → mesP f8 f9 f10 f11 f17 f18 f19 j from (fun h9 => by exfalso; obtain ⟨⟨h1, h2, h3⟩, h4⟩ := h9; omega)), (show valQ (VALW (lqW (q 0) (q 1) (q 2) (q 3) (q 4) (q 5) (q 6)) f8 f9 f10 f11 f17) (q 7) x1 x2 x3 x4 r_25 from (Or.inl ⟨(fun h9 => by obtain ⟨⟨h1, h2, h3⟩, h4⟩ := h9; omega), (by have h8 := hr_25; rw [ti_n2] at h8; omega)⟩))⟩, by rw [ht]; exact hP.sub [0, 1, 2, 3, 4, 5, 6, 7, 8, 9, 10] rfl, hD.sub [0, 1, 2, 3, 4, 5, 6, 7, 8, 9, 10] (by decide +kernel) rfl⟩, hS.F ht⟩) hS.2.2 dX13_value_32
  · refine lv_if_eq (tgt := 27) hx hb dX13_value_5 (by decide +kernel) (fun _ => ?_) (fun c9 => absurd c9 (by decide +kernel))
    refine lv_bipush (v := (-2)) hx hb dX13_value_27 (by decide +kernel) ?_
    refine vp_callSl (W.runS (As := [.int (-2)]) (rest := []) ⟨hx, hb, hml, hown, hts⟩ (c_X13_refused l D T (-2) (by decide +kernel)) (va_cwS 1 hts gX13_value_X13_refused rfl rfl rfl hs_X13_refused ⟨Nat.le_of_ble_eq_true rfl, Nat.le_of_ble_eq_true rfl⟩) (pR_S hP hE [] rfl) rfl rfl hl.1 rfl (lv_room (Nat.le_of_ble_eq_true rfl)) dX13_value_29 ⟨Nat.le_of_ble_eq_true rfl, Nat.le_of_ble_eq_true rfl⟩) (fun r_26 hr_26 => ?_)
    exact W.lret hx hb hr (fun t ht hW => ⟨⟨_, ((q 14), v, w, f17, f18, f19, f20, f21, f22), rfl, ⟨(show isB (q 14) from hB), (show ∀ j : Nat, isB (f22 j) from hZ), (show atV (q 7) x1 x2 x3 ∧ 0 ≤ x4.toInt ∧ x4.toInt ≤ 1 → ∀ j : Nat, (j : Int) < (q 7).toInt → mesP f8 f9 f10 f11 f17 f18 f19 j from (fun h9 => by exfalso; obtain ⟨⟨h1, h2, h3⟩, h4⟩ := h9; omega)), (show valQ (VALW (lqW (q 0) (q 1) (q 2) (q 3) (q 4) (q 5) (q 6)) f8 f9 f10 f11 f17) (q 7) x1 x2 x3 x4 r_26 from (Or.inl ⟨(fun h9 => by obtain ⟨⟨h1, h2, h3⟩, h4⟩ := h9; omega), (by have h8 := hr_26; rw [ti_n2] at h8; omega)⟩))⟩, by rw [ht]; exact hP.sub [0, 1, 2, 3, 4, 5, 6, 7, 8, 9, 10] rfl, hD.sub [0, 1, 2, 3, 4, 5, 6, 7, 8, 9, 10] (by decide +kernel) rfl⟩, hS.F ht⟩) hS.2.2 dX13_value_32
theorem dX13_mean_0 : decode cX13_mean 0 = .ok (.aload_n 0, 1) := by decide +kernel
theorem dX13_mean_1 : decode cX13_mean 1 = .ok (.iload_n 1, 1) := by decide +kernel
theorem dX13_mean_10 : decode cX13_mean 10 = .ok (.invokestatic 188, 3) := by decide +kernel
theorem dX13_mean_13 : decode cX13_mean 13 = .ok (.ifCond .eq 20, 3) := by decide +kernel
theorem dX13_mean_16 : decode cX13_mean 16 = .ok (.iload_n 2, 1) := by decide +kernel
theorem dX13_mean_17 : decode cX13_mean 17 = .ok (.bipush 6, 2) := by decide +kernel
theorem dX13_mean_19 : decode cX13_mean 19 = .ok (.if_icmp .eq 14, 3) := by decide +kernel
theorem dX13_mean_2 : decode cX13_mean 2 = .ok (.invokevirtual 233, 3) := by decide +kernel
theorem dX13_mean_22 : decode cX13_mean 22 = .ok (.iload 4, 2) := by decide +kernel
theorem dX13_mean_24 : decode cX13_mean 24 = .ok (.i2l, 1) := by decide +kernel
theorem dX13_mean_25 : decode cX13_mean 25 = .ok (.lconst 0, 1) := by decide +kernel
theorem dX13_mean_26 : decode cX13_mean 26 = .ok (.lconst 1, 1) := by decide +kernel
theorem dX13_mean_27 : decode cX13_mean 27 = .ok (.invokestatic 175, 3) := by decide +kernel
theorem dX13_mean_30 : decode cX13_mean 30 = .ok (.ifCond .ne 9, 3) := by decide +kernel
theorem dX13_mean_33 : decode cX13_mean 33 = .ok (.bipush (-2), 2) := by decide +kernel
theorem dX13_mean_35 : decode cX13_mean 35 = .ok (.invokestatic 270, 3) := by decide +kernel
theorem dX13_mean_38 : decode cX13_mean 38 = .ok (.lreturn, 1) := by decide +kernel
theorem dX13_mean_39 : decode cX13_mean 39 = .ok (.aload_n 0, 1) := by decide +kernel
theorem dX13_mean_40 : decode cX13_mean 40 = .ok (.iload_n 1, 1) := by decide +kernel
theorem dX13_mean_41 : decode cX13_mean 41 = .ok (.invokevirtual 274, 3) := by decide +kernel
theorem dX13_mean_44 : decode cX13_mean 44 = .ok (.aload_n 0, 1) := by decide +kernel
theorem dX13_mean_45 : decode cX13_mean 45 = .ok (.iload_n 1, 1) := by decide +kernel
theorem dX13_mean_46 : decode cX13_mean 46 = .ok (.iload_n 2, 1) := by decide +kernel
theorem dX13_mean_47 : decode cX13_mean 47 = .ok (.iload_n 3, 1) := by decide +kernel
theorem dX13_mean_48 : decode cX13_mean 48 = .ok (.invokevirtual 257, 3) := by decide +kernel
theorem dX13_mean_5 : decode cX13_mean 5 = .ok (.ifCond .eq 28, 3) := by decide +kernel
theorem dX13_mean_51 : decode cX13_mean 51 = .ok (.aload_n 0, 1) := by decide +kernel
theorem dX13_mean_52 : decode cX13_mean 52 = .ok (.getfield 131, 3) := by decide +kernel
theorem dX13_mean_55 : decode cX13_mean 55 = .ok (.ifCond .eq 11, 3) := by decide +kernel
theorem dX13_mean_58 : decode cX13_mean 58 = .ok (.bipush (-5), 2) := by decide +kernel
theorem dX13_mean_60 : decode cX13_mean 60 = .ok (.invokestatic 270, 3) := by decide +kernel
theorem dX13_mean_63 : decode cX13_mean 63 = .ok (.goto 19, 3) := by decide +kernel
theorem dX13_mean_66 : decode cX13_mean 66 = .ok (.iload 4, 2) := by decide +kernel
theorem dX13_mean_68 : decode cX13_mean 68 = .ok (.ifCond .ne 10, 3) := by decide +kernel
theorem dX13_mean_71 : decode cX13_mean 71 = .ok (.aload_n 0, 1) := by decide +kernel
theorem dX13_mean_72 : decode cX13_mean 72 = .ok (.getfield 145, 3) := by decide +kernel
theorem dX13_mean_75 : decode cX13_mean 75 = .ok (.goto 7, 3) := by decide +kernel
theorem dX13_mean_78 : decode cX13_mean 78 = .ok (.aload_n 0, 1) := by decide +kernel
theorem dX13_mean_79 : decode cX13_mean 79 = .ok (.getfield 149, 3) := by decide +kernel
theorem dX13_mean_8 : decode cX13_mean 8 = .ok (.iload_n 2, 1) := by decide +kernel
theorem dX13_mean_82 : decode cX13_mean 82 = .ok (.lreturn, 1) := by decide +kernel
theorem dX13_mean_9 : decode cX13_mean 9 = .ok (.iload_n 3, 1) := by decide +kernel
set_option maxRecDepth 20000 in
theorem ggX13_mean_X13_in : GoodIn wsX13_mean wsX13_in := goodIn_r _ [12] rfl (by decide +kernel)
set_option maxRecDepth 20000 in
theorem ggX13_mean_X13_isClause : GoodIn wsX13_mean wsX13_isClause := goodIn_r _ [8, 9, 10, 11, 7, 12, 119, 120, 121, 122, 123, 124, 125, 126, 127, 128, 129, 130, 131, 132, 133, 134, 135, 136, 137, 138, 139, 140, 141, 142, 143, 144, 145, 146, 147, 148, 149, 150, 151, 152, 153, 154, 155, 156, 157, 158, 159, 160, 161, 162, 163] rfl (by decide +kernel)
set_option maxRecDepth 20000 in
theorem ggX13_mean_X13_isSpot : GoodIn wsX13_mean wsX13_isSpot := goodIn_r _ [15, 16, 10, 11, 7, 12] rfl (by decide +kernel)
set_option maxRecDepth 40000 in
theorem ggX13_mean_X13_laysWorths_0 : GoodIn wsX13_mean [.code yX13_laysWorths cX13_laysWorths 6 none] := goodIn_r _ [24] rfl (by decide +kernel)
set_option maxRecDepth 40000 in
theorem ggX13_mean_X13_laysWorths_1 : GoodIn wsX13_mean wsX13_laysWorths_r1 := goodIn_r _ [1, 25, 26, 27, 2, 28, 3, 29, 30, 31, 7, 32, 9, 33, 34, 35, 36, 37, 38, 39, 40, 41, 42, 43] rfl (by decide +kernel)
set_option maxRecDepth 40000 in
theorem ggX13_mean_X13_laysWorths_2 : GoodIn wsX13_mean wsX13_laysWorths_r2 := goodIn_r _ [44, 45, 46, 47, 48, 49, 50, 51, 52, 53, 54, 55, 56, 57, 58, 59, 60, 61, 62, 63, 64, 65, 66, 67] rfl (by decide +kernel)
set_option maxRecDepth 40000 in
theorem ggX13_mean_X13_laysWorths_3 : GoodIn wsX13_mean wsX13_laysWorths_r3 := goodIn_r _ [68, 69, 70, 71, 72, 73, 74, 75, 76, 77, 78, 79, 80, 81, 82, 83, 84, 85, 86, 87, 88, 89, 90, 91] rfl (by decide +kernel)
set_option maxRecDepth 40000 in
theorem ggX13_mean_X13_laysWorths_4 : GoodIn wsX13_mean wsX13_laysWorths_r4 := goodIn_r _ [92, 93, 94, 95, 96, 97, 98, 99, 100, 101, 102, 103, 104, 105, 106, 107, 108, 109, 110, 111, 112, 113, 114, 115] rfl (by decide +kernel)
set_option maxRecDepth 40000 in
theorem ggX13_mean_X13_laysWorths_5 : GoodIn wsX13_mean wsX13_laysWorths_r5 := goodIn_r _ [116, 117, 118] rfl (by decide +kernel)
set_option maxRecDepth 40000 in
theorem ggX13_mean_X13_laysWorths_6 : GoodIn wsX13_mean wsX130 := goodIn_r _ [119, 120, 121, 122, 123, 124, 125, 126, 127, 128, 129, 130, 131, 132, 133, 134, 135, 136, 137, 138, 139, 140, 141, 142, 143, 144, 145, 146, 147, 148, 149, 150, 151, 152, 153, 154, 155, 156, 157, 158, 159, 160, 161, 162, 163] rfl (by decide +kernel)
set_option maxRecDepth 40000 in
theorem ggX13_mean_X13_laysWorths : GoodIn wsX13_mean wsX13_laysWorths := (goodIn_app ggX13_mean_X13_laysWorths_0 (goodIn_app (goodIn_app ggX13_mean_X13_laysWorths_1 (goodIn_app ggX13_mean_X13_laysWorths_2 (goodIn_app ggX13_mean_X13_laysWorths_3 (goodIn_app ggX13_mean_X13_laysWorths_4 ggX13_mean_X13_laysWorths_5)))) ggX13_mean_X13_laysWorths_6))
set_option maxRecDepth 40000 in
theorem ggX13_mean_X13_means_0 : GoodIn wsX13_mean [.code yX13_means cX13_means 10 none] := goodIn_r _ [110] rfl (by decide +kernel)
set_option maxRecDepth 40000 in
theorem ggX13_mean_X13_means_1 : GoodIn wsX13_mean wsX13_means_r1 := goodIn_r _ [111, 2, 3, 112, 113, 114, 61, 62, 63, 7, 64, 1, 26, 27, 28, 65, 66, 67, 68, 69, 70, 71, 72, 73] rfl (by decide +kernel)
set_option maxRecDepth 40000 in
theorem ggX13_mean_X13_means_2 : GoodIn wsX13_mean wsX13_means_r2 := goodIn_r _ [74, 75, 60, 76, 49, 50, 51, 52, 53, 54, 55, 84, 85, 86, 87, 88, 89, 90, 91] rfl (by decide +kernel)
set_option maxRecDepth 40000 in
theorem ggX13_mean_X13_means_3 : GoodIn wsX13_mean wsX130 := goodIn_r _ [119, 120, 121, 122, 123, 124, 125, 126, 127, 128, 129, 130, 131, 132, 133, 134, 135, 136, 137, 138, 139, 140, 141, 142, 143, 144, 145, 146, 147, 148, 149, 150, 151, 152, 153, 154, 155, 156, 157, 158, 159, 160, 161, 162, 163] rfl (by decide +kernel)
set_option maxRecDepth 40000 in
theorem ggX13_mean_X13_means : GoodIn wsX13_mean wsX13_means := (goodIn_app ggX13_mean_X13_means_0 (goodIn_app (goodIn_app ggX13_mean_X13_means_1 ggX13_mean_X13_means_2) ggX13_mean_X13_means_3))
set_option maxRecDepth 20000 in
theorem ggX13_mean_X13_refused : GoodIn wsX13_mean wsX13_refused := goodIn_r _ [19, 20] rfl (by decide +kernel)
set_option maxRecDepth 20000 in
theorem gX13_mean_X13_in : GoodIn wsX13_mean (va_wsS RX13 175 yX13_in wsX13_in) := goodIn_app (goodIn_of _ (by decide +kernel)) ggX13_mean_X13_in
set_option maxRecDepth 20000 in
theorem gX13_mean_X13_isClause : GoodIn wsX13_mean (wsV RX13 233 RX13 yX13_isClause wsX13_isClause) := goodIn_app (goodIn_r _ [4, 5, 6, 7] rfl (by decide +kernel)) ggX13_mean_X13_isClause
set_option maxRecDepth 20000 in
theorem gX13_mean_X13_isSpot : GoodIn wsX13_mean (va_wsS RX13 188 yX13_isSpot wsX13_isSpot) := goodIn_app (goodIn_of _ (by decide +kernel)) ggX13_mean_X13_isSpot
set_option maxRecDepth 20000 in
theorem gX13_mean_X13_laysWorths : GoodIn wsX13_mean (wsV RX13 274 RX13 yX13_laysWorths wsX13_laysWorths) := goodIn_app (goodIn_r _ [21, 22, 23, 7] rfl (by decide +kernel)) ggX13_mean_X13_laysWorths
set_option maxRecDepth 20000 in
theorem gX13_mean_X13_means : GoodIn wsX13_mean (wsV RX13 257 RX13 yX13_means wsX13_means) := goodIn_app (goodIn_r _ [107, 108, 109, 7] rfl (by decide +kernel)) ggX13_mean_X13_means
set_option maxRecDepth 20000 in
theorem gX13_mean_X13_refused : GoodIn wsX13_mean (va_wsS RX13 270 yX13_refused wsX13_refused) := goodIn_app (goodIn_of _ (by decide +kernel)) ggX13_mean_X13_refused
set_option maxRecDepth 20000 in
theorem in_X13_mean_X13 : ∀ w ∈ wsX130, w ∈ wsX13_mean := sub_r [119, 120, 121, 122, 123, 124, 125, 126, 127, 128, 129, 130, 131, 132, 133, 134, 135, 136, 137, 138, 139, 140, 141, 142, 143, 144, 145, 146, 147, 148, 149, 150, 151, 152, 153, 154, 155, 156, 157, 158, 159, 160, 161, 162, 163] rfl
set_option maxHeartbeats 4000000 in
set_option maxRecDepth 100000 in
theorem c_X13_mean (l : Launch) (D : va_G) (T : Nat → ClassId) (sz : Nat) (h0 : Nat) (q : Nat → Int32) (v : Int64) (w : Int64) (a : Nat → Nat) (f8 : Nat → Int32) (f9 : Nat → Int32) (f10 : Nat → Int32) (f11 : Nat → Int32) (f17 : Nat → Int32) (f18 : Nat → Int32) (f19 : Nat → Int32) (f20 : Nat → Int64) (f21 : Nat → Int64) (f22 : Nat → Int32) (x1 : Int32) (x2 : Int32) (x3 : Int32) (x4 : Int32) (hB : isB (q 14)) (hm : 0 ≤ (q 7).toInt ∧ (q 7).toInt ≤ 24) (hokR : okR f8 f10 f11) (hZ : ∀ j : Nat, isB (f22 j)) (hL : (1 ≤ (q 4).toInt ∧ (q 4).toInt ≤ 9) ∧ 1 ≤ (q 6).toInt ∧ (q 6).toInt ≤ 9) : Met l yX13_mean wsX13_mean ({ frames := 134, cells := 0, slots := 0, locals := 5283 }) (pW [.ref h0, .int x1, .int x2, .int x3, .int x4] D T [(h0, .inr (10, (Value.int (q 0) :: Value.int (q 1) :: Value.int (q 2) :: Value.int (q 3) :: Value.int (q 4) :: Value.int (q 5) :: Value.int (q 6) :: Value.int (q 7) :: Value.ref (a 8) :: Value.ref (a 9) :: Value.ref (a 10) :: Value.ref (a 11) :: Value.ref (a 12) :: Value.ref (a 13) :: Value.int (q 14) :: Value.long v :: Value.long w :: Value.ref (a 17) :: Value.ref (a 18) :: Value.ref (a 19) :: Value.ref (a 20) :: Value.ref (a 21) :: Value.ref (a 22) :: Value.ref (a 23) :: Value.int (q 24) :: Value.ref (a 25) :: Value.int (q 26) :: Value.ref (a 27) :: Value.int (q 28) :: Value.int (q 29) :: Value.int (q 30) :: Value.int (q 31) :: Value.int (q 32) :: Value.int (q 33) :: Value.ref (a 34) :: Value.ref (a 35) :: Value.ref (a 36) :: Value.ref (a 37) :: Value.ref (a 38) :: Value.ref (a 39) :: Value.ref (a 40) :: Value.int (q 41) :: Value.ref (a 42) :: Value.int (q 43) :: Value.int (q 44) :: []))), ((a 8), .inl (T 0, 24, .inl f8)), ((a 9), .inl (T 0, 24, .inl f9)), ((a 10), .inl (T 0, 24, .inl f10)), ((a 11), .inl (T 0, 24, .inl f11)), ((a 17), .inl (T 0, 24, .inl f17)), ((a 18), .inl (T 0, 24, .inl f18)), ((a 19), .inl (T 0, 24, .inl f19)), ((a 20), .inl (T 1, 672, .inr (.inl f20))), ((a 21), .inl (T 1, 672, .inr (.inl f21))), ((a 22), .inl (T 4, 672, .inl f22))] sz) (va_Ql (fun (r : Int64) (u : (Int32) × (Int64) × (Int64) × (Nat → Int32) × (Nat → Int32) × (Nat → Int32) × (Nat → Int64) × (Nat → Int64) × (Nat → Int32)) => (isB u.1) ∧ (∀ j : Nat, isB (u.2.2.2.2.2.2.2.2 j)) ∧ (atV (q 7) x1 x2 x3 ∧ x2.toInt ≠ 6 ∧ 0 ≤ x4.toInt ∧ x4.toInt ≤ 1 → ∀ j : Nat, (j : Int) < (q 7).toInt → mesP f8 f9 f10 f11 u.2.2.2.1 u.2.2.2.2.1 u.2.2.2.2.2.1 j) ∧ (meanQ (lqW (q 0) (q 1) (q 2) (q 3) (q 4) (q 5) (q 6)) (VALW (lqW (q 0) (q 1) (q 2) (q 3) (q 4) (q 5) (q 6)) f8 f9 f10 f11 u.2.2.2.1) (q 7) x1 x2 x3 x4 r)) (bW D (va_A [(h0, .inr (10, (Value.int (q 0) :: Value.int (q 1) :: Value.int (q 2) :: Value.int (q 3) :: Value.int (q 4) :: Value.int (q 5) :: Value.int (q 6) :: Value.int (q 7) :: Value.ref (a 8) :: Value.ref (a 9) :: Value.ref (a 10) :: Value.ref (a 11) :: Value.ref (a 12) :: Value.ref (a 13) :: Value.int (q 14) :: Value.long v :: Value.long w :: Value.ref (a 17) :: Value.ref (a 18) :: Value.ref (a 19) :: Value.ref (a 20) :: Value.ref (a 21) :: Value.ref (a 22) :: Value.ref (a 23) :: Value.int (q 24) :: Value.ref (a 25) :: Value.int (q 26) :: Value.ref (a 27) :: Value.int (q 28) :: Value.int (q 29) :: Value.int (q 30) :: Value.int (q 31) :: Value.int (q 32) :: Value.int (q 33) :: Value.ref (a 34) :: Value.ref (a 35) :: Value.ref (a 36) :: Value.ref (a 37) :: Value.ref (a 38) :: Value.ref (a 39) :: Value.ref (a 40) :: Value.int (q 41) :: Value.ref (a 42) :: Value.int (q 43) :: Value.int (q 44) :: []))), ((a 8), .inl (T 0, 24, .inl f8)), ((a 9), .inl (T 0, 24, .inl f9)), ((a 10), .inl (T 0, 24, .inl f10)), ((a 11), .inl (T 0, 24, .inl f11)), ((a 17), .inl (T 0, 24, .inl f17)), ((a 18), .inl (T 0, 24, .inl f18)), ((a 19), .inl (T 0, 24, .inl f19)), ((a 20), .inl (T 1, 672, .inr (.inl f20))), ((a 21), .inl (T 1, 672, .inr (.inl f21))), ((a 22), .inl (T 4, 672, .inl f22))] sz) (fun (u : (Int32) × (Int64) × (Int64) × (Nat → Int32) × (Nat → Int32) × (Nat → Int32) × (Nat → Int64) × (Nat → Int64) × (Nat → Int32)) => [(h0, .inr (10, (Value.int (q 0) :: Value.int (q 1) :: Value.int (q 2) :: Value.int (q 3) :: Value.int (q 4) :: Value.int (q 5) :: Value.int (q 6) :: Value.int (q 7) :: Value.ref (a 8) :: Value.ref (a 9) :: Value.ref (a 10) :: Value.ref (a 11) :: Value.ref (a 12) :: Value.ref (a 13) :: Value.int u.1 :: Value.long u.2.1 :: Value.long u.2.2.1 :: Value.ref (a 17) :: Value.ref (a 18) :: Value.ref (a 19) :: Value.ref (a 20) :: Value.ref (a 21) :: Value.ref (a 22) :: Value.ref (a 23) :: Value.int (q 24) :: Value.ref (a 25) :: Value.int (q 26) :: Value.ref (a 27) :: Value.int (q 28) :: Value.int (q 29) :: Value.int (q 30) :: Value.int (q 31) :: Value.int (q 32) :: Value.int (q 33) :: Value.ref (a 34) :: Value.ref (a 35) :: Value.ref (a 36) :: Value.ref (a 37) :: Value.ref (a 38) :: Value.ref (a 39) :: Value.ref (a 40) :: Value.int (q 41) :: Value.ref (a 42) :: Value.int (q 43) :: Value.int (q 44) :: []))), ((a 8), .inl (T 0, 24, .inl f8)), ((a 9), .inl (T 0, 24, .inl f9)), ((a 10), .inl (T 0, 24, .inl f10)), ((a 11), .inl (T 0, 24, .inl f11)), ((a 17), .inl (T 0, 24, .inl u.2.2.2.1)), ((a 18), .inl (T 0, 24, .inl u.2.2.2.2.1)), ((a 19), .inl (T 0, 24, .inl u.2.2.2.2.2.1)), ((a 20), .inl (T 1, 672, .inr (.inl u.2.2.2.2.2.2.1))), ((a 21), .inl (T 1, 672, .inr (.inl u.2.2.2.2.2.2.2.1))), ((a 22), .inl (T 4, 672, .inl u.2.2.2.2.2.2.2.2))])) (va_A [(h0, .inr (10, (Value.int (q 0) :: Value.int (q 1) :: Value.int (q 2) :: Value.int (q 3) :: Value.int (q 4) :: Value.int (q 5) :: Value.int (q 6) :: Value.int (q 7) :: Value.ref (a 8) :: Value.ref (a 9) :: Value.ref (a 10) :: Value.ref (a 11) :: Value.ref (a 12) :: Value.ref (a 13) :: Value.int (q 14) :: Value.long v :: Value.long w :: Value.ref (a 17) :: Value.ref (a 18) :: Value.ref (a 19) :: Value.ref (a 20) :: Value.ref (a 21) :: Value.ref (a 22) :: Value.ref (a 23) :: Value.int (q 24) :: Value.ref (a 25) :: Value.int (q 26) :: Value.ref (a 27) :: Value.int (q 28) :: Value.int (q 29) :: Value.int (q 30) :: Value.int (q 31) :: Value.int (q 32) :: Value.int (q 33) :: Value.ref (a 34) :: Value.ref (a 35) :: Value.ref (a 36) :: Value.ref (a 37) :: Value.ref (a 38) :: Value.ref (a 39) :: Value.ref (a 40) :: Value.int (q 41) :: Value.ref (a 42) :: Value.int (q 43) :: Value.int (q 44) :: []))), ((a 8), .inl (T 0, 24, .inl f8)), ((a 9), .inl (T 0, 24, .inl f9)), ((a 10), .inl (T 0, 24, .inl f10)), ((a 11), .inl (T 0, 24, .inl f11)), ((a 17), .inl (T 0, 24, .inl f17)), ((a 18), .inl (T 0, 24, .inl f18)), ((a 19), .inl (T 0, 24, .inl f19)), ((a 20), .inl (T 1, 672, .inr (.inl f20))), ((a 21), .inl (T 1, 672, .inr (.inl f21))), ((a 22), .inl (T 4, 672, .inl f22))] sz)) 0 0 (va_A [(h0, .inr (10, (Value.int (q 0) :: Value.int (q 1) :: Value.int (q 2) :: Value.int (q 3) :: Value.int (q 4) :: Value.int (q 5) :: Value.int (q 6) :: Value.int (q 7) :: Value.ref (a 8) :: Value.ref (a 9) :: Value.ref (a 10) :: Value.ref (a 11) :: Value.ref (a 12) :: Value.ref (a 13) :: Value.int (q 14) :: Value.long v :: Value.long w :: Value.ref (a 17) :: Value.ref (a 18) :: Value.ref (a 19) :: Value.ref (a 20) :: Value.ref (a 21) :: Value.ref (a 22) :: Value.ref (a 23) :: Value.int (q 24) :: Value.ref (a 25) :: Value.int (q 26) :: Value.ref (a 27) :: Value.int (q 28) :: Value.int (q 29) :: Value.int (q 30) :: Value.int (q 31) :: Value.int (q 32) :: Value.int (q 33) :: Value.ref (a 34) :: Value.ref (a 35) :: Value.ref (a 36) :: Value.ref (a 37) :: Value.ref (a 38) :: Value.ref (a 39) :: Value.ref (a 40) :: Value.int (q 41) :: Value.ref (a 42) :: Value.int (q 43) :: Value.int (q 44) :: []))), ((a 8), .inl (T 0, 24, .inl f8)), ((a 9), .inl (T 0, 24, .inl f9)), ((a 10), .inl (T 0, 24, .inl f10)), ((a 11), .inl (T 0, 24, .inl f11)), ((a 17), .inl (T 0, 24, .inl f17)), ((a 18), .inl (T 0, 24, .inl f18)), ((a 19), .inl (T 0, 24, .inl f19)), ((a 20), .inl (T 1, 672, .inr (.inl f20))), ((a 21), .inl (T 1, 672, .inr (.inl f21))), ((a 22), .inl (T 4, 672, .inl f22))] sz) := by
  refine Met.ofW (cc := cX13_mean) (maxL := 5) (ret := (some .long)) (by decide +kernel) rfl ?_
  intro p e s m args below meth c s₁ B hml hv
  obtain ⟨rfl, hsz, hP, hE, hD0⟩ := hv
  have hx := B.exec
  have hb := B.bytes
  have hr := B.returns
  have hts := atoms_spec (ws := wsX13_mean) B.pre
  have hown : s.vm.findClass RX13 = some m.cls := findClass_of_methodNamed B.named
  have hlocks := B.notSynchronized
  subst hsz
  have hD := hD0.self (sz := s.heap.size)
  generalize hAe : va_A [(h0, .inr (10, (Value.int (q 0) :: Value.int (q 1) :: Value.int (q 2) :: Value.int (q 3) :: Value.int (q 4) :: Value.int (q 5) :: Value.int (q 6) :: Value.int (q 7) :: Value.ref (a 8) :: Value.ref (a 9) :: Value.ref (a 10) :: Value.ref (a 11) :: Value.ref (a 12) :: Value.ref (a 13) :: Value.int (q 14) :: Value.long v :: Value.long w :: Value.ref (a 17) :: Value.ref (a 18) :: Value.ref (a 19) :: Value.ref (a 20) :: Value.ref (a 21) :: Value.ref (a 22) :: Value.ref (a 23) :: Value.int (q 24) :: Value.ref (a 25) :: Value.int (q 26) :: Value.ref (a 27) :: Value.int (q 28) :: Value.int (q 29) :: Value.int (q 30) :: Value.int (q 31) :: Value.int (q 32) :: Value.int (q 33) :: Value.ref (a 34) :: Value.ref (a 35) :: Value.ref (a 36) :: Value.ref (a 37) :: Value.ref (a 38) :: Value.ref (a 39) :: Value.ref (a 40) :: Value.int (q 41) :: Value.ref (a 42) :: Value.int (q 43) :: Value.int (q 44) :: []))), ((a 8), .inl (T 0, 24, .inl f8)), ((a 9), .inl (T 0, 24, .inl f9)), ((a 10), .inl (T 0, 24, .inl f10)), ((a 11), .inl (T 0, 24, .inl f11)), ((a 17), .inl (T 0, 24, .inl f17)), ((a 18), .inl (T 0, 24, .inl f18)), ((a 19), .inl (T 0, 24, .inl f19)), ((a 20), .inl (T 1, 672, .inr (.inl f20))), ((a 21), .inl (T 1, 672, .inr (.inl f21))), ((a 22), .inl (T 4, 672, .inl f22))] s.heap.size = A at hD ⊢
  have hA : ∀ q : Nat, s.heap.size ≤ q → A q := fun q h => by rw [← hAe]; exact Or.inr h
  have hS : va_S A s.heap s.heap [] := va_S.rf
  have hP : va_P D vwCl [(h0, .inr (10, (Value.int (q 0) :: Value.int (q 1) :: Value.int (q 2) :: Value.int (q 3) :: Value.int (q 4) :: Value.int (q 5) :: Value.int (q 6) :: Value.int (q 7) :: Value.ref (a 8) :: Value.ref (a 9) :: Value.ref (a 10) :: Value.ref (a 11) :: Value.ref (a 12) :: Value.ref (a 13) :: Value.int (q 14) :: Value.long v :: Value.long w :: Value.ref (a 17) :: Value.ref (a 18) :: Value.ref (a 19) :: Value.ref (a 20) :: Value.ref (a 21) :: Value.ref (a 22) :: Value.ref (a 23) :: Value.int (q 24) :: Value.ref (a 25) :: Value.int (q 26) :: Value.ref (a 27) :: Value.int (q 28) :: Value.int (q 29) :: Value.int (q 30) :: Value.int (q 31) :: Value.int (q 32) :: Value.int (q 33) :: Value.ref (a 34) :: Value.ref (a 35) :: Value.ref (a 36) :: Value.ref (a 37) :: Value.ref (a 38) :: Value.ref (a 39) :: Value.ref (a 40) :: Value.int (q 41) :: Value.ref (a 42) :: Value.int (q 43) :: Value.int (q 44) :: []))), ((a 8), .inl (T 0, 24, .inl f8)), ((a 9), .inl (T 0, 24, .inl f9)), ((a 10), .inl (T 0, 24, .inl f10)), ((a 11), .inl (T 0, 24, .inl f11)), ((a 17), .inl (T 0, 24, .inl f17)), ((a 18), .inl (T 0, 24, .inl f18)), ((a 19), .inl (T 0, 24, .inl f19)), ((a 20), .inl (T 1, 672, .inr (.inl f20))), ((a 21), .inl (T 1, 672, .inr (.inl f21))), ((a 22), .inl (T 4, 672, .inl f22))] s.heap := hP
  have hl := lv_entry ([.ref h0, .int x1, .int x2, .int x3, .int x4]) (n := 5) (Nat.le_of_ble_eq_true rfl)
  rw [lg_entry_eq]
  generalize (lg_sl ([.ref h0, .int x1, .int x2, .int x3, .int x4]) ++ List.replicate (5 - (lg_sl ([.ref h0, .int x1, .int x2, .int x3, .int x4])).length) Slot.unset).toArray = ls at hl ⊢
  have hl : lv_has ls 5 [(0, .ref h0), (1, .int x1), (2, .int x2), (3, .int x3), (4, .int x4)] := hl
  clear hD0
  refine lv_aload_n hx hb dX13_mean_0 rfl (lv_at hl 0 rfl) ?_
  refine lv_iload_n hx hb dX13_mean_1 rfl (lv_at hl 1 rfl) ?_
  refine vp_callSi (W.runV (As := [.int x1]) (rest := []) ⟨hx, hb, hml, hown, hts⟩ (c_X13_isClause l D T h0 [.int (q 0), .int (q 1), .int (q 2), .int (q 3), .int (q 4), .int (q 5), .int (q 6), .int (q 7), .ref (a 8), .ref (a 9), .ref (a 10), .ref (a 11), .ref (a 12), .ref (a 13), .int (q 14), .long v, .long w, .ref (a 17), .ref (a 18), .ref (a 19), .ref (a 20), .ref (a 21), .ref (a 22), .ref (a 23), .int (q 24), .ref (a 25), .int (q 26), .ref (a 27), .int (q 28), .int (q 29), .int (q 30), .int (q 31), .int (q 32), .int (q 33), .ref (a 34), .ref (a 35), .ref (a 36), .ref (a 37), .ref (a 38), .ref (a 39), .ref (a 40), .int (q 41), .ref (a 42), .int (q 43), .int (q 44)] x1 (q 7) rfl (by omega)) (cwV 1 hts gX13_mean_X13_isClause rfl rfl rfl hv_X13_isClause ⟨Nat.le_of_ble_eq_true rfl, Nat.le_of_ble_eq_true rfl⟩) (pR_V (q := (RX13, TX13, 45)) (ci := 10) (q0 := 0) hP hE rfl rfl [0] rfl) rfl rfl hl.1 rfl (lv_room (Nat.le_of_ble_eq_true rfl)) dX13_mean_2 ⟨Nat.le_of_ble_eq_true rfl, Nat.le_of_ble_eq_true rfl⟩) (fun r_1 hr_1 => ?_)
  rcases bool_post hr_1 with ⟨c_2, rfl⟩ | ⟨c_2, rfl⟩
  · refine lv_if_eq (tgt := 33) hx hb dX13_mean_5 (by decide +kernel) (fun c9 => absurd c9 (by decide +kernel)) (fun _ => ?_)
    refine lv_iload_n hx hb dX13_mean_8 rfl (lv_at hl 2 rfl) ?_
    refine lv_iload_n hx hb dX13_mean_9 rfl (lv_at hl 3 rfl) ?_
    refine vp_callSi (W.runS (As := [.int x2, .int x3]) (rest := []) ⟨hx, hb, hml, hown, hts⟩ (c_X13_isSpot l D T x2 x3) (va_cwS 2 hts gX13_mean_X13_isSpot rfl rfl rfl hs_X13_isSpot ⟨Nat.le_of_ble_eq_true rfl, Nat.le_of_ble_eq_true rfl⟩) (pR_S hP hE [] rfl) rfl rfl hl.1 rfl (lv_room (Nat.le_of_ble_eq_true rfl)) dX13_mean_10 ⟨Nat.le_of_ble_eq_true rfl, Nat.le_of_ble_eq_true rfl⟩) (fun r_3 hr_3 => ?_)
    rcases bool_post hr_3 with ⟨c_4, rfl⟩ | ⟨c_4, rfl⟩
    · refine lv_if_eq (tgt := 33) hx hb dX13_mean_13 (by decide +kernel) (fun c9 => absurd c9 (by decide +kernel)) (fun _ => ?_)
      refine lv_iload_n hx hb dX13_mean_16 rfl (lv_at hl 2 rfl) ?_
      refine lv_bipush (v := 6) hx hb dX13_mean_17 (by decide +kernel) ?_
      refine lv_icmp_eq (tgt := 33) hx hb dX13_mean_19 (by decide +kernel) (fun c_5 => ?_) (fun c_5 => ?_)
      · rw [fa_eq] at c_5
        try rw [ti_6] at c_5
        refine lv_bipush (v := (-2)) hx hb dX13_mean_33 (by decide +kernel) ?_
        refine vp_callSl (W.runS (As := [.int (-2)]) (rest := []) ⟨hx, hb, hml, hown, hts⟩ (c_X13_refused l D T (-2) (by decide +kernel)) (va_cwS 1 hts gX13_mean_X13_refused rfl rfl rfl hs_X13_refused ⟨Nat.le_of_ble_eq_true rfl, Nat.le_of_ble_eq_true rfl⟩) (pR_S hP hE [] rfl) rfl rfl hl.1 rfl (lv_room (Nat.le_of_ble_eq_true rfl)) dX13_mean_35 ⟨Nat.le_of_ble_eq_true rfl, Nat.le_of_ble_eq_true rfl⟩) (fun r_6 hr_6 => ?_)
        exact W.lret hx hb hr (fun t ht hW => ⟨⟨_, ((q 14), v, w, f17, f18, f19, f20, f21, f22), rfl, ⟨(show isB (q 14) from hB), (show ∀ j : Nat, isB (f22 j) from hZ), (show atV (q 7) x1 x2 x3 ∧ x2.toInt ≠ 6 ∧ 0 ≤ x4.toInt ∧ x4.toInt ≤ 1 → ∀ j : Nat, (j : Int) < (q 7).toInt → mesP f8 f9 f10 f11 f17 f18 f19 j from (fun h9 => by exfalso; obtain ⟨⟨h1, h2, h3⟩, h4, h5⟩ := h9; omega)), (show meanQ (lqW (q 0) (q 1) (q 2) (q 3) (q 4) (q 5) (q 6)) (VALW (lqW (q 0) (q 1) (q 2) (q 3) (q 4) (q 5) (q 6)) f8 f9 f10 f11 f17) (q 7) x1 x2 x3 x4 r_6 from (Or.inl ⟨(fun h9 => by obtain ⟨⟨h1, h2, h3⟩, h4, h5⟩ := h9; omega), (by have h8 := hr_6; rw [ti_n2] at h8; omega)⟩))⟩, by rw [ht]; exact hP.sub [0, 1, 2, 3, 4, 5, 6, 7, 8, 9, 10] rfl, hD.sub [0, 1, 2, 3, 4, 5, 6, 7, 8, 9, 10] (by decide +kernel) rfl⟩, hS.F ht⟩) hS.2.2 dX13_mean_38
      · rw [fa_eq] at c_5
        try rw [ti_6] at c_5
        refine lv_iload hx hb dX13_mean_22 (lv_at hl 4 rfl) ?_
        refine lv_i2l hx hb dX13_mean_24 rfl ?_
        refine lv_lconst (v := 0) hx hb dX13_mean_25 (by decide +kernel) ?_
        refine lv_lconst (v := 1) hx hb dX13_mean_26 (by decide +kernel) ?_
        refine vp_callSi (W.runS (As := [.long (x4.toInt64), .long 0, .long 1]) (rest := []) ⟨hx, hb, hml, hown, hts⟩ (c_X13_in l D T (x4.toInt64) 0 1 x4.toInt 0 1 ((Int32.toInt_toInt64 _).trans rfl) (by decide +kernel) (by decide +kernel)) (va_cwS 3 hts gX13_mean_X13_in rfl rfl rfl hs_X13_in ⟨Nat.le_of_ble_eq_true rfl, Nat.le_of_ble_eq_true rfl⟩) (pR_S hP hE [] rfl) rfl rfl hl.1 rfl (lv_room (Nat.le_of_ble_eq_true rfl)) dX13_mean_27 ⟨Nat.le_of_ble_eq_true rfl, Nat.le_of_ble_eq_true rfl⟩) (fun r_7 hr_7 => ?_)
        rcases bool_post hr_7 with ⟨c_8, rfl⟩ | ⟨c_8, rfl⟩
        · refine lv_if_ne (tgt := 39) hx hb dX13_mean_30 (by decide +kernel) (fun _ => ?_) (fun c9 => absurd c9 (by decide +kernel))
          refine lv_aload_n hx hb dX13_mean_39 rfl (lv_at hl 0 rfl) ?_
          refine lv_iload_n hx hb dX13_mean_40 rfl (lv_at hl 1 rfl) ?_
          have hFc := va_free (wc := [(h0, .inr (10, (Value.int (q 0) :: Value.int (q 1) :: Value.int (q 2) :: Value.int (q 3) :: Value.int (q 4) :: Value.int (q 5) :: Value.int (q 6) :: Value.int (q 7) :: Value.ref (a 8) :: Value.ref (a 9) :: Value.ref (a 10) :: Value.ref (a 11) :: Value.ref (a 12) :: Value.ref (a 13) :: Value.int (q 14) :: Value.long v :: Value.long w :: Value.ref (a 17) :: Value.ref (a 18) :: Value.ref (a 19) :: Value.ref (a 20) :: Value.ref (a 21) :: Value.ref (a 22) :: Value.ref (a 23) :: Value.int (q 24) :: Value.ref (a 25) :: Value.int (q 26) :: Value.ref (a 27) :: Value.int (q 28) :: Value.int (q 29) :: Value.int (q 30) :: Value.int (q 31) :: Value.int (q 32) :: Value.int (q 33) :: Value.ref (a 34) :: Value.ref (a 35) :: Value.ref (a 36) :: Value.ref (a 37) :: Value.ref (a 38) :: Value.ref (a 39) :: Value.ref (a 40) :: Value.int (q 41) :: Value.ref (a 42) :: Value.int (q 43) :: Value.int (q 44) :: []))), ((a 8), .inl (T 0, 24, .inl f8)), ((a 9), .inl (T 0, 24, .inl f9)), ((a 10), .inl (T 0, 24, .inl f10)), ((a 11), .inl (T 0, 24, .inl f11)), ((a 17), .inl (T 0, 24, .inl f17)), ((a 18), .inl (T 0, 24, .inl f18)), ((a 19), .inl (T 0, 24, .inl f19)), ((a 20), .inl (T 1, 672, .inr (.inl f20))), ((a 21), .inl (T 1, 672, .inr (.inl f21))), ((a 22), .inl (T 4, 672, .inl f22))]) hD hS hA [0, 1, 2, 3, 4, 5, 6, 7, 8, 9, 10] rfl
          refine va_callv (va_runV (As := [.int x1]) (rest := []) ⟨hx, hb, hml, hown, hts⟩ (c_X13_laysWorths l D T _ h0 q v w a f8 f9 f10 f11 f17 f18 f19 f20 f21 f22 x1 (show 0 ≤ (q 7).toInt ∧ (q 7).toInt ≤ 24 from (by omega)) (show okR f8 f10 f11 from hokR) (show ∀ j : Nat, isB (f22 j) from hZ) (show (1 ≤ (q 4).toInt ∧ (q 4).toInt ≤ 9) ∧ 1 ≤ (q 6).toInt ∧ (q 6).toInt ≤ 9 from (by omega)) (show -1 ≤ x1.toInt ∧ x1.toInt < (q 7).toInt from (by omega))) (cwV 1 hts gX13_mean_X13_laysWorths rfl rfl rfl hv_X13_laysWorths ⟨Nat.le_of_ble_eq_true rfl, Nat.le_of_ble_eq_true rfl⟩) (pW_V (q := (RX13, TX13, 45)) (ci := 10) (q0 := 0) hP hE hD rfl rfl [0, 1, 2, 3, 4, 5, 6, 7, 8, 9, 10] (by decide +kernel) rfl rfl) rfl rfl hl.1 rfl (lv_room (Nat.le_of_ble_eq_true rfl)) dX13_mean_41 ⟨Nat.le_of_ble_eq_true rfl, Nat.le_of_ble_eq_true rfl⟩) hS (fun q _ h => hFc q h) hFc (fun u_10 t H1 locs ht hvm hr_9 hB hz1 hk1 hS => ?_)
          obtain ⟨l_11, l_12, f_13, f_14, f_15, f_16, f_17, f_18⟩ := u_10
          obtain ⟨hi0_r_9, hi1_r_9, hi2_r_9, hi3_r_9, hi4_r_9⟩ := hr_9
          have hZ : ∀ j : Nat, isB (f_18 j) := hi0_r_9
          have hEE : okE f8 f10 f_13 (q 7).toInt := hi1_r_9
          have hW1 : ∀ j : Nat, (j : Int) < 28 * (x1.toInt + 1) → 1 ≤ (f_17 j).toInt := hi2_r_9
          have hTV : ∀ y t s : Int32, spK t s → 0 ≤ y.toInt → y.toInt ≤ x1.toInt → tabW f_16 f_17 f_18 y t s = VALW (lqW (q 0) (q 1) (q 2) (q 3) (q 4) (q 5) (q 6)) f8 f9 f10 f11 f_13 y t s := hi3_r_9
          have hMEr : ∀ j : Nat, (j : Int) < (q 7).toInt → mesP f8 f9 f10 f11 f_13 f_14 f_15 j := hi4_r_9
          obtain ⟨hP1, hD1⟩ := hB
          rw [ht] at hP1
          obtain ⟨hP, hD⟩ := va_repl [(h0, .inr (10, (Value.int (q 0) :: Value.int (q 1) :: Value.int (q 2) :: Value.int (q 3) :: Value.int (q 4) :: Value.int (q 5) :: Value.int (q 6) :: Value.int (q 7) :: Value.ref (a 8) :: Value.ref (a 9) :: Value.ref (a 10) :: Value.ref (a 11) :: Value.ref (a 12) :: Value.ref (a 13) :: Value.int 0 :: Value.long l_11 :: Value.long l_12 :: Value.ref (a 17) :: Value.ref (a 18) :: Value.ref (a 19) :: Value.ref (a 20) :: Value.ref (a 21) :: Value.ref (a 22) :: Value.ref (a 23) :: Value.int (q 24) :: Value.ref (a 25) :: Value.int (q 26) :: Value.ref (a 27) :: Value.int (q 28) :: Value.int (q 29) :: Value.int (q 30) :: Value.int (q 31) :: Value.int (q 32) :: Value.int (q 33) :: Value.ref (a 34) :: Value.ref (a 35) :: Value.ref (a 36) :: Value.ref (a 37) :: Value.ref (a 38) :: Value.ref (a 39) :: Value.ref (a 40) :: Value.int (q 41) :: Value.ref (a 42) :: Value.int (q 43) :: Value.int (q 44) :: []))), ((a 8), .inl (T 0, 24, .inl f8)), ((a 9), .inl (T 0, 24, .inl f9)), ((a 10), .inl (T 0, 24, .inl f10)), ((a 11), .inl (T 0, 24, .inl f11)), ((a 17), .inl (T 0, 24, .inl f_13)), ((a 18), .inl (T 0, 24, .inl f_14)), ((a 19), .inl (T 0, 24, .inl f_15)), ((a 20), .inl (T 1, 672, .inr (.inl f_16))), ((a 21), .inl (T 1, 672, .inr (.inl f_17))), ((a 22), .inl (T 4, 672, .inl f_18))] hP hD [0, 1, 2, 3, 4, 5, 6, 7, 8, 9, 10] [0, 1, 2, 3, 4, 5, 6, 7, 8, 9, 10] rfl (by decide +kernel) rfl rfl rfl hk1 hP1
          clear hP1 hD1 hFc
          generalize H1 = H at hP hS ⊢
          refine lv_aload_n hx hb dX13_mean_44 rfl (lv_at hl 0 rfl) ?_
          refine lv_iload_n hx hb dX13_mean_45 rfl (lv_at hl 1 rfl) ?_
          refine lv_iload_n hx hb dX13_mean_46 rfl (lv_at hl 2 rfl) ?_
          refine lv_iload_n hx hb dX13_mean_47 rfl (lv_at hl 3 rfl) ?_
          have hFc := va_free (wc := [(h0, .inr (10, (Value.int (q 0) :: Value.int (q 1) :: Value.int (q 2) :: Value.int (q 3) :: Value.int (q 4) :: Value.int (q 5) :: Value.int (q 6) :: Value.int (q 7) :: Value.ref (a 8) :: Value.ref (a 9) :: Value.ref (a 10) :: Value.ref (a 11) :: Value.ref (a 12) :: Value.ref (a 13) :: Value.int 0 :: Value.long l_11 :: Value.long l_12 :: Value.ref (a 17) :: Value.ref (a 18) :: Value.ref (a 19) :: Value.ref (a 20) :: Value.ref (a 21) :: Value.ref (a 22) :: Value.ref (a 23) :: Value.int (q 24) :: Value.ref (a 25) :: Value.int (q 26) :: Value.ref (a 27) :: Value.int (q 28) :: Value.int (q 29) :: Value.int (q 30) :: Value.int (q 31) :: Value.int (q 32) :: Value.int (q 33) :: Value.ref (a 34) :: Value.ref (a 35) :: Value.ref (a 36) :: Value.ref (a 37) :: Value.ref (a 38) :: Value.ref (a 39) :: Value.ref (a 40) :: Value.int (q 41) :: Value.ref (a 42) :: Value.int (q 43) :: Value.int (q 44) :: []))), ((a 20), .inl (T 1, 672, .inr (.inl f_16))), ((a 21), .inl (T 1, 672, .inr (.inl f_17))), ((a 22), .inl (T 4, 672, .inl f_18))]) hD hS hA [0, 8, 9, 10] rfl
          refine va_callv (va_runV (As := [.int x1, .int x2, .int x3]) (rest := []) ⟨hx, hb, hml, hown, hts⟩ (c_X13_means l D T _ h0 (fun k => cond (Nat.beq k 14) 0 (q k)) l_11 l_12 a f_16 f_17 f_18 x1 x2 x3 (show isB (0 : Int32) from isB0) (show ∀ j : Nat, isB (f_18 j) from hZ) (show (1 ≤ (q 4).toInt ∧ (q 4).toInt ≤ 9) ∧ 1 ≤ (q 6).toInt ∧ (q 6).toInt ≤ 9 from (by omega)) (show 0 ≤ x1.toInt ∧ x1.toInt < 24 from (by omega)) (show 0 ≤ x2.toInt ∧ x2.toInt ≤ 5 from (by omega)) (show 0 ≤ x3.toInt ∧ x3.toInt ≤ x2.toInt from (by omega)) (show ∀ j : Nat, 28 * x1.toInt + tri (x2.toInt + 1) ≤ j → (j : Int) < 28 * x1.toInt + 28 → 1 ≤ (f_17 j).toInt from (fun j _ h2 => hW1 j (by omega)))) (cwV 3 hts gX13_mean_X13_means rfl rfl rfl hv_X13_means ⟨Nat.le_of_ble_eq_true rfl, Nat.le_of_ble_eq_true rfl⟩) (pW_V (q := (RX13, TX13, 45)) (ci := 10) (q0 := 0) hP hE hD rfl rfl [0, 8, 9, 10] (by decide +kernel) rfl rfl) rfl rfl hl.1 rfl (lv_room (Nat.le_of_ble_eq_true rfl)) dX13_mean_48 ⟨Nat.le_of_ble_eq_true rfl, Nat.le_of_ble_eq_true rfl⟩) hS (fun q _ h => hFc q h) hFc (fun u_20 t H1 locs ht hvm hr_19 hB hz1 hk1 hS => ?_)
          obtain ⟨n_21, l_22, l_23⟩ := u_20
          obtain ⟨hi0_r_19, hi1_r_19, hi2_r_19, hi3_r_19⟩ := hr_19
          have hB14_r_19 : isB n_21 := hi0_r_19
          have hj1_r_19 : 1 ≤ l_23.toInt := hi1_r_19
          have hj2_r_19 : ((0 : Int32) : Int32).toInt = 0 → mpW n_21 l_22 l_23 = avgW (lqW (q 0) (q 1) (q 2) (q 3) (q 4) (q 5) (q 6)) (tabW f_16 f_17 f_18) x1 x2 x3 := hi2_r_19
          have hj3_r_19 : (n_21 : Int32).toInt = 0 → ((0 : Int32) : Int32).toInt = 0 := hi3_r_19
          obtain ⟨hP1, hD1⟩ := hB
          rw [ht] at hP1
          obtain ⟨hP, hD⟩ := va_repl [(h0, .inr (10, (Value.int (q 0) :: Value.int (q 1) :: Value.int (q 2) :: Value.int (q 3) :: Value.int (q 4) :: Value.int (q 5) :: Value.int (q 6) :: Value.int (q 7) :: Value.ref (a 8) :: Value.ref (a 9) :: Value.ref (a 10) :: Value.ref (a 11) :: Value.ref (a 12) :: Value.ref (a 13) :: Value.int n_21 :: Value.long l_22 :: Value.long l_23 :: Value.ref (a 17) :: Value.ref (a 18) :: Value.ref (a 19) :: Value.ref (a 20) :: Value.ref (a 21) :: Value.ref (a 22) :: Value.ref (a 23) :: Value.int (q 24) :: Value.ref (a 25) :: Value.int (q 26) :: Value.ref (a 27) :: Value.int (q 28) :: Value.int (q 29) :: Value.int (q 30) :: Value.int (q 31) :: Value.int (q 32) :: Value.int (q 33) :: Value.ref (a 34) :: Value.ref (a 35) :: Value.ref (a 36) :: Value.ref (a 37) :: Value.ref (a 38) :: Value.ref (a 39) :: Value.ref (a 40) :: Value.int (q 41) :: Value.ref (a 42) :: Value.int (q 43) :: Value.int (q 44) :: []))), ((a 8), .inl (T 0, 24, .inl f8)), ((a 9), .inl (T 0, 24, .inl f9)), ((a 10), .inl (T 0, 24, .inl f10)), ((a 11), .inl (T 0, 24, .inl f11)), ((a 17), .inl (T 0, 24, .inl f_13)), ((a 18), .inl (T 0, 24, .inl f_14)), ((a 19), .inl (T 0, 24, .inl f_15)), ((a 20), .inl (T 1, 672, .inr (.inl f_16))), ((a 21), .inl (T 1, 672, .inr (.inl f_17))), ((a 22), .inl (T 4, 672, .inl f_18))] hP hD [0, 8, 9, 10] [0, 8, 9, 10] rfl (by decide +kernel) rfl rfl rfl hk1 hP1
          clear hP1 hD1 hFc
          generalize H1 = H at hP hS ⊢
          refine lv_aload_n hx hb dX13_mean_51 rfl (lv_at hl 0 rfl) ?_
          refine va_get (D := D) (ci := 10) (v := .int n_21) (C := RX13) (T := TX13) (N := 45) hx hb hts in_X13_mean_X13 hown hE.1 hP 0 rfl rfl 14 (by decide +kernel) (hts (.fieldLink RX13 131 "ClauseBookModel" "isMuch" "Z") (List.mem_of_getElem? (i := 1) rfl)) (fun _ h9 => h9) rfl dX13_mean_52 ?_
          refine lv_if_eq (tgt := 66) hx hb dX13_mean_55 (by decide +kernel) (fun c_24 => ?_) (fun c_24 => ?_)
          · rw [fa_eq] at c_24
            try rw [ti_0] at c_24
            refine lv_iload hx hb dX13_mean_66 (lv_at hl 4 rfl) ?_
            refine lv_if_ne (tgt := 78) hx hb dX13_mean_68 (by decide +kernel) (fun c_25 => ?_) (fun c_25 => ?_)
            · rw [fa_eq] at c_25
              try rw [ti_0] at c_25
              refine lv_aload_n hx hb dX13_mean_78 rfl (lv_at hl 0 rfl) ?_
              refine va_get (D := D) (ci := 10) (v := .long l_23) (C := RX13) (T := TX13) (N := 45) hx hb hts in_X13_mean_X13 hown hE.1 hP 0 rfl rfl 16 (by decide +kernel) (hts (.fieldLink RX13 149 "ClauseBookModel" "below" "J") (List.mem_of_getElem? (i := 3) rfl)) (fun _ h9 => h9) rfl dX13_mean_79 ?_
              exact W.lret hx hb hr (fun t ht hW => ⟨⟨_, (n_21, l_22, l_23, f_13, f_14, f_15, f_16, f_17, f_18), rfl, ⟨(show isB n_21 from hB14_r_19), (show ∀ j : Nat, isB (f_18 j) from hZ), (show atV (q 7) x1 x2 x3 ∧ x2.toInt ≠ 6 ∧ 0 ≤ x4.toInt ∧ x4.toInt ≤ 1 → ∀ j : Nat, (j : Int) < (q 7).toInt → mesP f8 f9 f10 f11 f_13 f_14 f_15 j from (fun _ => hMEr)), (show meanQ (lqW (q 0) (q 1) (q 2) (q 3) (q 4) (q 5) (q 6)) (VALW (lqW (q 0) (q 1) (q 2) (q 3) (q 4) (q 5) (q 6)) f8 f9 f10 f11 f_13) (q 7) x1 x2 x3 x4 l_23 from (Or.inr ⟨⟨⟨(by omega), (by omega), (by omega)⟩, (by omega), (by omega)⟩, partW_of ((hj2_r_19 (by decide +kernel)).trans (avg_tv (fun t s g => hTV x1 t s g (by omega) (by omega)) (by omega) (by omega))) (part_mv (by omega) hj1_r_19 (by first | exact Or.inl ⟨by omega, rfl⟩ | exact Or.inr ⟨by omega, rfl⟩))⟩))⟩, by rw [ht]; exact hP.sub [0, 1, 2, 3, 4, 5, 6, 7, 8, 9, 10] rfl, hD.sub [0, 1, 2, 3, 4, 5, 6, 7, 8, 9, 10] (by decide +kernel) rfl⟩, hS.F ht⟩) hS.2.2 dX13_mean_82
            · rw [fa_eq] at c_25
              try rw [ti_0] at c_25
              refine lv_aload_n hx hb dX13_mean_71 rfl (lv_at hl 0 rfl) ?_
              refine va_get (D := D) (ci := 10) (v := .long l_22) (C := RX13) (T := TX13) (N := 45) hx hb hts in_X13_mean_X13 hown hE.1 hP 0 rfl rfl 15 (by decide +kernel) (hts (.fieldLink RX13 145 "ClauseBookModel" "above" "J") (List.mem_of_getElem? (i := 2) rfl)) (fun _ h9 => h9) rfl dX13_mean_72 ?_
              refine lv_goto (tgt := 82) hx hb dX13_mean_75 (by decide +kernel) ?_
              exact W.lret hx hb hr (fun t ht hW => ⟨⟨_, (n_21, l_22, l_23, f_13, f_14, f_15, f_16, f_17, f_18), rfl, ⟨(show isB n_21 from hB14_r_19), (show ∀ j : Nat, isB (f_18 j) from hZ), (show atV (q 7) x1 x2 x3 ∧ x2.toInt ≠ 6 ∧ 0 ≤ x4.toInt ∧ x4.toInt ≤ 1 → ∀ j : Nat, (j : Int) < (q 7).toInt → mesP f8 f9 f10 f11 f_13 f_14 f_15 j from (fun _ => hMEr)), (show meanQ (lqW (q 0) (q 1) (q 2) (q 3) (q 4) (q 5) (q 6)) (VALW (lqW (q 0) (q 1) (q 2) (q 3) (q 4) (q 5) (q 6)) f8 f9 f10 f11 f_13) (q 7) x1 x2 x3 x4 l_22 from (Or.inr ⟨⟨⟨(by omega), (by omega), (by omega)⟩, (by omega), (by omega)⟩, partW_of ((hj2_r_19 (by decide +kernel)).trans (avg_tv (fun t s g => hTV x1 t s g (by omega) (by omega)) (by omega) (by omega))) (part_mv (by omega) hj1_r_19 (by first | exact Or.inl ⟨by omega, rfl⟩ | exact Or.inr ⟨by omega, rfl⟩))⟩))⟩, by rw [ht]; exact hP.sub [0, 1, 2, 3, 4, 5, 6, 7, 8, 9, 10] rfl, hD.sub [0, 1, 2, 3, 4, 5, 6, 7, 8, 9, 10] (by decide +kernel) rfl⟩, hS.F ht⟩) hS.2.2 dX13_mean_82
          · rw [fa_eq] at c_24
            try rw [ti_0] at c_24
            refine lv_bipush (v := (-5)) hx hb dX13_mean_58 (by decide +kernel) ?_
            refine vp_callSl (W.runS (As := [.int (-5)]) (rest := []) ⟨hx, hb, hml, hown, hts⟩ (c_X13_refused l D T (-5) (by decide +kernel)) (va_cwS 1 hts gX13_mean_X13_refused rfl rfl rfl hs_X13_refused ⟨Nat.le_of_ble_eq_true rfl, Nat.le_of_ble_eq_true rfl⟩) (pR_S hP hE [] rfl) rfl rfl hl.1 rfl (lv_room (Nat.le_of_ble_eq_true rfl)) dX13_mean_60 ⟨Nat.le_of_ble_eq_true rfl, Nat.le_of_ble_eq_true rfl⟩) (fun r_26 hr_26 => ?_)
            refine lv_goto (tgt := 82) hx hb dX13_mean_63 (by decide +kernel) ?_
            exact W.lret hx hb hr (fun t ht hW => ⟨⟨_, (n_21, l_22, l_23, f_13, f_14, f_15, f_16, f_17, f_18), rfl, ⟨(show isB n_21 from hB14_r_19), (show ∀ j : Nat, isB (f_18 j) from hZ), (show atV (q 7) x1 x2 x3 ∧ x2.toInt ≠ 6 ∧ 0 ≤ x4.toInt ∧ x4.toInt ≤ 1 → ∀ j : Nat, (j : Int) < (q 7).toInt → mesP f8 f9 f10 f11 f_13 f_14 f_15 j from (fun _ => hMEr)), (show meanQ (lqW (q 0) (q 1) (q 2) (q 3) (q 4) (q 5) (q 6)) (VALW (lqW (q 0) (q 1) (q 2) (q 3) (q 4) (q 5) (q 6)) f8 f9 f10 f11 f_13) (q 7) x1 x2 x3 x4 r_26 from (Or.inr ⟨⟨⟨(by omega), (by omega), (by omega)⟩, (by omega), (by omega)⟩, partW_of ((hj2_r_19 (by decide +kernel)).trans (avg_tv (fun t s g => hTV x1 t s g (by omega) (by omega)) (by omega) (by omega))) (part_mm (by omega) (by have h8 := hr_26; rw [ti_n5] at h8; omega))⟩))⟩, by rw [ht]; exact hP.sub [0, 1, 2, 3, 4, 5, 6, 7, 8, 9, 10] rfl, hD.sub [0, 1, 2, 3, 4, 5, 6, 7, 8, 9, 10] (by decide +kernel) rfl⟩, hS.F ht⟩) hS.2.2 dX13_mean_82
        · refine lv_if_ne (tgt := 39) hx hb dX13_mean_30 (by decide +kernel) (fun c9 => absurd c9 (by decide +kernel)) (fun _ => ?_)
          refine lv_bipush (v := (-2)) hx hb dX13_mean_33 (by decide +kernel) ?_
          refine vp_callSl (W.runS (As := [.int (-2)]) (rest := []) ⟨hx, hb, hml, hown, hts⟩ (c_X13_refused l D T (-2) (by decide +kernel)) (va_cwS 1 hts gX13_mean_X13_refused rfl rfl rfl hs_X13_refused ⟨Nat.le_of_ble_eq_true rfl, Nat.le_of_ble_eq_true rfl⟩) (pR_S hP hE [] rfl) rfl rfl hl.1 rfl (lv_room (Nat.le_of_ble_eq_true rfl)) dX13_mean_35 ⟨Nat.le_of_ble_eq_true rfl, Nat.le_of_ble_eq_true rfl⟩) (fun r_27 hr_27 => ?_)
          exact W.lret hx hb hr (fun t ht hW => ⟨⟨_, ((q 14), v, w, f17, f18, f19, f20, f21, f22), rfl, ⟨(show isB (q 14) from hB), (show ∀ j : Nat, isB (f22 j) from hZ), (show atV (q 7) x1 x2 x3 ∧ x2.toInt ≠ 6 ∧ 0 ≤ x4.toInt ∧ x4.toInt ≤ 1 → ∀ j : Nat, (j : Int) < (q 7).toInt → mesP f8 f9 f10 f11 f17 f18 f19 j from (fun h9 => by exfalso; obtain ⟨⟨h1, h2, h3⟩, h4, h5⟩ := h9; omega)), (show meanQ (lqW (q 0) (q 1) (q 2) (q 3) (q 4) (q 5) (q 6)) (VALW (lqW (q 0) (q 1) (q 2) (q 3) (q 4) (q 5) (q 6)) f8 f9 f10 f11 f17) (q 7) x1 x2 x3 x4 r_27 from (Or.inl ⟨(fun h9 => by obtain ⟨⟨h1, h2, h3⟩, h4, h5⟩ := h9; omega), (by have h8 := hr_27; rw [ti_n2] at h8; omega)⟩))⟩, by rw [ht]; exact hP.sub [0, 1, 2, 3, 4, 5, 6, 7, 8, 9, 10] rfl, hD.sub [0, 1, 2, 3, 4, 5, 6, 7, 8, 9, 10] (by decide +kernel) rfl⟩, hS.F ht⟩) hS.2.2 dX13_mean_38
    · refine lv_if_eq (tgt := 33) hx hb dX13_mean_13 (by decide +kernel) (fun _ => ?_) (fun c9 => absurd c9 (by decide +kernel))
      refine lv_bipush (v := (-2)) hx hb dX13_mean_33 (by decide +kernel) ?_
      refine vp_callSl (W.runS (As := [.int (-2)]) (rest := []) ⟨hx, hb, hml, hown, hts⟩ (c_X13_refused l D T (-2) (by decide +kernel)) (va_cwS 1 hts gX13_mean_X13_refused rfl rfl rfl hs_X13_refused ⟨Nat.le_of_ble_eq_true rfl, Nat.le_of_ble_eq_true rfl⟩) (pR_S hP hE [] rfl) rfl rfl hl.1 rfl (lv_room (Nat.le_of_ble_eq_true rfl)) dX13_mean_35 ⟨Nat.le_of_ble_eq_true rfl, Nat.le_of_ble_eq_true rfl⟩) (fun r_28 hr_28 => ?_)
      exact W.lret hx hb hr (fun t ht hW => ⟨⟨_, ((q 14), v, w, f17, f18, f19, f20, f21, f22), rfl, ⟨(show isB (q 14) from hB), (show ∀ j : Nat, isB (f22 j) from hZ), (show atV (q 7) x1 x2 x3 ∧ x2.toInt ≠ 6 ∧ 0 ≤ x4.toInt ∧ x4.toInt ≤ 1 → ∀ j : Nat, (j : Int) < (q 7).toInt → mesP f8 f9 f10 f11 f17 f18 f19 j from (fun h9 => by exfalso; obtain ⟨⟨h1, h2, h3⟩, h4, h5⟩ := h9; omega)), (show meanQ (lqW (q 0) (q 1) (q 2) (q 3) (q 4) (q 5) (q 6)) (VALW (lqW (q 0) (q 1) (q 2) (q 3) (q 4) (q 5) (q 6)) f8 f9 f10 f11 f17) (q 7) x1 x2 x3 x4 r_28 from (Or.inl ⟨(fun h9 => by obtain ⟨⟨h1, h2, h3⟩, h4, h5⟩ := h9; omega), (by have h8 := hr_28; rw [ti_n2] at h8; omega)⟩))⟩, by rw [ht]; exact hP.sub [0, 1, 2, 3, 4, 5, 6, 7, 8, 9, 10] rfl, hD.sub [0, 1, 2, 3, 4, 5, 6, 7, 8, 9, 10] (by decide +kernel) rfl⟩, hS.F ht⟩) hS.2.2 dX13_mean_38
  · refine lv_if_eq (tgt := 33) hx hb dX13_mean_5 (by decide +kernel) (fun _ => ?_) (fun c9 => absurd c9 (by decide +kernel))
    refine lv_bipush (v := (-2)) hx hb dX13_mean_33 (by decide +kernel) ?_
    refine vp_callSl (W.runS (As := [.int (-2)]) (rest := []) ⟨hx, hb, hml, hown, hts⟩ (c_X13_refused l D T (-2) (by decide +kernel)) (va_cwS 1 hts gX13_mean_X13_refused rfl rfl rfl hs_X13_refused ⟨Nat.le_of_ble_eq_true rfl, Nat.le_of_ble_eq_true rfl⟩) (pR_S hP hE [] rfl) rfl rfl hl.1 rfl (lv_room (Nat.le_of_ble_eq_true rfl)) dX13_mean_35 ⟨Nat.le_of_ble_eq_true rfl, Nat.le_of_ble_eq_true rfl⟩) (fun r_29 hr_29 => ?_)
    exact W.lret hx hb hr (fun t ht hW => ⟨⟨_, ((q 14), v, w, f17, f18, f19, f20, f21, f22), rfl, ⟨(show isB (q 14) from hB), (show ∀ j : Nat, isB (f22 j) from hZ), (show atV (q 7) x1 x2 x3 ∧ x2.toInt ≠ 6 ∧ 0 ≤ x4.toInt ∧ x4.toInt ≤ 1 → ∀ j : Nat, (j : Int) < (q 7).toInt → mesP f8 f9 f10 f11 f17 f18 f19 j from (fun h9 => by exfalso; obtain ⟨⟨h1, h2, h3⟩, h4, h5⟩ := h9; omega)), (show meanQ (lqW (q 0) (q 1) (q 2) (q 3) (q 4) (q 5) (q 6)) (VALW (lqW (q 0) (q 1) (q 2) (q 3) (q 4) (q 5) (q 6)) f8 f9 f10 f11 f17) (q 7) x1 x2 x3 x4 r_29 from (Or.inl ⟨(fun h9 => by obtain ⟨⟨h1, h2, h3⟩, h4, h5⟩ := h9; omega), (by have h8 := hr_29; rw [ti_n2] at h8; omega)⟩))⟩, by rw [ht]; exact hP.sub [0, 1, 2, 3, 4, 5, 6, 7, 8, 9, 10] rfl, hD.sub [0, 1, 2, 3, 4, 5, 6, 7, 8, 9, 10] (by decide +kernel) rfl⟩, hS.F ht⟩) hS.2.2 dX13_mean_38
theorem nm_choice {z : Int32} (h : z.toInt = 6 ∨ z.toInt = 7) : (nmT (z.toNatClampNeg)).toInt = 2 := by
  rcases h with h | h
  · have e : z = 6 := by rw [fa_eq, h]; decide
    rw [e]; decide
  · have e : z = 7 := by rw [fa_eq, h]; decide
    rw [e]; decide
theorem dX13_chosenAt_0 : decode cX13_chosenAt 0 = .ok (.aload_n 0, 1) := by decide +kernel
theorem dX13_chosenAt_1 : decode cX13_chosenAt 1 = .ok (.getfield 35, 3) := by decide +kernel
theorem dX13_chosenAt_100 : decode cX13_chosenAt 100 = .ok (.bipush 6, 2) := by decide +kernel
theorem dX13_chosenAt_102 : decode cX13_chosenAt 102 = .ok (.if_icmp .ne 11, 3) := by decide +kernel
theorem dX13_chosenAt_105 : decode cX13_chosenAt 105 = .ok (.iload 6, 2) := by decide +kernel
theorem dX13_chosenAt_107 : decode cX13_chosenAt 107 = .ok (.ifCond .le 16, 3) := by decide +kernel
theorem dX13_chosenAt_110 : decode cX13_chosenAt 110 = .ok (.goto 8, 3) := by decide +kernel
theorem dX13_chosenAt_113 : decode cX13_chosenAt 113 = .ok (.iload 6, 2) := by decide +kernel
theorem dX13_chosenAt_115 : decode cX13_chosenAt 115 = .ok (.ifCond .ge 8, 3) := by decide +kernel
theorem dX13_chosenAt_118 : decode cX13_chosenAt 118 = .ok (.iload 5, 2) := by decide +kernel
theorem dX13_chosenAt_12 : decode cX13_chosenAt 12 = .ok (.iload_n 1, 1) := by decide +kernel
theorem dX13_chosenAt_120 : decode cX13_chosenAt 120 = .ok (.goto 5, 3) := by decide +kernel
theorem dX13_chosenAt_123 : decode cX13_chosenAt 123 = .ok (.iload 4, 2) := by decide +kernel
theorem dX13_chosenAt_125 : decode cX13_chosenAt 125 = .ok (.ireturn, 1) := by decide +kernel
theorem dX13_chosenAt_13 : decode cX13_chosenAt 13 = .ok (.iaload, 1) := by decide +kernel
theorem dX13_chosenAt_14 : decode cX13_chosenAt 14 = .ok (.istore 5, 2) := by decide +kernel
theorem dX13_chosenAt_16 : decode cX13_chosenAt 16 = .ok (.iload_n 2, 1) := by decide +kernel
theorem dX13_chosenAt_17 : decode cX13_chosenAt 17 = .ok (.aload_n 0, 1) := by decide +kernel
theorem dX13_chosenAt_18 : decode cX13_chosenAt 18 = .ok (.getfield 47, 3) := by decide +kernel
theorem dX13_chosenAt_21 : decode cX13_chosenAt 21 = .ok (.iload 4, 2) := by decide +kernel
theorem dX13_chosenAt_23 : decode cX13_chosenAt 23 = .ok (.iaload, 1) := by decide +kernel
theorem dX13_chosenAt_24 : decode cX13_chosenAt 24 = .ok (.if_icmp .gt 14, 3) := by decide +kernel
theorem dX13_chosenAt_27 : decode cX13_chosenAt 27 = .ok (.iload_n 2, 1) := by decide +kernel
theorem dX13_chosenAt_28 : decode cX13_chosenAt 28 = .ok (.aload_n 0, 1) := by decide +kernel
theorem dX13_chosenAt_29 : decode cX13_chosenAt 29 = .ok (.getfield 47, 3) := by decide +kernel
theorem dX13_chosenAt_32 : decode cX13_chosenAt 32 = .ok (.iload 5, 2) := by decide +kernel
theorem dX13_chosenAt_34 : decode cX13_chosenAt 34 = .ok (.iaload, 1) := by decide +kernel
theorem dX13_chosenAt_35 : decode cX13_chosenAt 35 = .ok (.if_icmp .le 22, 3) := by decide +kernel
theorem dX13_chosenAt_38 : decode cX13_chosenAt 38 = .ok (.iload_n 2, 1) := by decide +kernel
theorem dX13_chosenAt_39 : decode cX13_chosenAt 39 = .ok (.aload_n 0, 1) := by decide +kernel
theorem dX13_chosenAt_4 : decode cX13_chosenAt 4 = .ok (.iload_n 1, 1) := by decide +kernel
theorem dX13_chosenAt_40 : decode cX13_chosenAt 40 = .ok (.getfield 47, 3) := by decide +kernel
theorem dX13_chosenAt_43 : decode cX13_chosenAt 43 = .ok (.iload 4, 2) := by decide +kernel
theorem dX13_chosenAt_45 : decode cX13_chosenAt 45 = .ok (.iaload, 1) := by decide +kernel
theorem dX13_chosenAt_46 : decode cX13_chosenAt 46 = .ok (.if_icmp .le 8, 3) := by decide +kernel
theorem dX13_chosenAt_49 : decode cX13_chosenAt 49 = .ok (.iload 5, 2) := by decide +kernel
theorem dX13_chosenAt_5 : decode cX13_chosenAt 5 = .ok (.iaload, 1) := by decide +kernel
theorem dX13_chosenAt_51 : decode cX13_chosenAt 51 = .ok (.goto 5, 3) := by decide +kernel
theorem dX13_chosenAt_54 : decode cX13_chosenAt 54 = .ok (.iload 4, 2) := by decide +kernel
theorem dX13_chosenAt_56 : decode cX13_chosenAt 56 = .ok (.ireturn, 1) := by decide +kernel
theorem dX13_chosenAt_57 : decode cX13_chosenAt 57 = .ok (.aload_n 0, 1) := by decide +kernel
theorem dX13_chosenAt_58 : decode cX13_chosenAt 58 = .ok (.iload 4, 2) := by decide +kernel
theorem dX13_chosenAt_6 : decode cX13_chosenAt 6 = .ok (.istore 4, 2) := by decide +kernel
theorem dX13_chosenAt_60 : decode cX13_chosenAt 60 = .ok (.iload_n 2, 1) := by decide +kernel
theorem dX13_chosenAt_61 : decode cX13_chosenAt 61 = .ok (.iload_n 3, 1) := by decide +kernel
theorem dX13_chosenAt_62 : decode cX13_chosenAt 62 = .ok (.invokevirtual 299, 3) := by decide +kernel
theorem dX13_chosenAt_65 : decode cX13_chosenAt 65 = .ok (.ifCond .ne 14, 3) := by decide +kernel
theorem dX13_chosenAt_68 : decode cX13_chosenAt 68 = .ok (.aload_n 0, 1) := by decide +kernel
theorem dX13_chosenAt_69 : decode cX13_chosenAt 69 = .ok (.iload 5, 2) := by decide +kernel
theorem dX13_chosenAt_71 : decode cX13_chosenAt 71 = .ok (.iload_n 2, 1) := by decide +kernel
theorem dX13_chosenAt_72 : decode cX13_chosenAt 72 = .ok (.iload_n 3, 1) := by decide +kernel
theorem dX13_chosenAt_73 : decode cX13_chosenAt 73 = .ok (.invokevirtual 299, 3) := by decide +kernel
theorem dX13_chosenAt_76 : decode cX13_chosenAt 76 = .ok (.ifCond .eq 6, 3) := by decide +kernel
theorem dX13_chosenAt_79 : decode cX13_chosenAt 79 = .ok (.bipush (-5), 2) := by decide +kernel
theorem dX13_chosenAt_8 : decode cX13_chosenAt 8 = .ok (.aload_n 0, 1) := by decide +kernel
theorem dX13_chosenAt_81 : decode cX13_chosenAt 81 = .ok (.ireturn, 1) := by decide +kernel
theorem dX13_chosenAt_82 : decode cX13_chosenAt 82 = .ok (.aload_n 0, 1) := by decide +kernel
theorem dX13_chosenAt_83 : decode cX13_chosenAt 83 = .ok (.iload 5, 2) := by decide +kernel
theorem dX13_chosenAt_85 : decode cX13_chosenAt 85 = .ok (.iload 4, 2) := by decide +kernel
theorem dX13_chosenAt_87 : decode cX13_chosenAt 87 = .ok (.iload_n 2, 1) := by decide +kernel
theorem dX13_chosenAt_88 : decode cX13_chosenAt 88 = .ok (.iload_n 3, 1) := by decide +kernel
theorem dX13_chosenAt_89 : decode cX13_chosenAt 89 = .ok (.invokevirtual 303, 3) := by decide +kernel
theorem dX13_chosenAt_9 : decode cX13_chosenAt 9 = .ok (.getfield 38, 3) := by decide +kernel
theorem dX13_chosenAt_92 : decode cX13_chosenAt 92 = .ok (.istore 6, 2) := by decide +kernel
theorem dX13_chosenAt_94 : decode cX13_chosenAt 94 = .ok (.aload_n 0, 1) := by decide +kernel
theorem dX13_chosenAt_95 : decode cX13_chosenAt 95 = .ok (.getfield 28, 3) := by decide +kernel
theorem dX13_chosenAt_98 : decode cX13_chosenAt 98 = .ok (.iload_n 1, 1) := by decide +kernel
theorem dX13_chosenAt_99 : decode cX13_chosenAt 99 = .ok (.iaload, 1) := by decide +kernel
set_option maxRecDepth 20000 in
theorem ggX13_chosenAt_X13_comparedAt : GoodIn wsX13_chosenAt wsX13_comparedAt := goodIn_r _ [17, 18, 19, 11, 12, 8, 13, 20, 21, 22, 23, 24, 25, 26, 27, 28, 29, 30, 31, 32, 33, 34, 35, 36, 37, 38, 39, 40, 41, 42, 43, 44, 45, 46, 47, 48, 49, 50, 51, 52, 53, 54, 55, 56, 57, 58, 59, 60, 61, 62, 63, 64, 65, 66, 67, 68, 69, 70, 71] rfl (by decide +kernel)
set_option maxRecDepth 20000 in
theorem ggX13_chosenAt_X13_isMuchAt : GoodIn wsX13_chosenAt wsX13_isMuchAt := goodIn_r _ [9, 10, 11, 12, 8, 13, 27, 28, 29, 30, 31, 32, 33, 34, 35, 36, 37, 38, 39, 40, 41, 42, 43, 44, 45, 46, 47, 48, 49, 50, 51, 52, 53, 54, 55, 56, 57, 58, 59, 60, 61, 62, 63, 64, 65, 66, 67, 68, 69, 70, 71] rfl (by decide +kernel)
set_option maxRecDepth 20000 in
theorem gX13_chosenAt_X13_comparedAt : GoodIn wsX13_chosenAt (wsV RX13 303 RX13 yX13_comparedAt wsX13_comparedAt) := goodIn_app (goodIn_r _ [14, 15, 16, 8] rfl (by decide +kernel)) ggX13_chosenAt_X13_comparedAt
set_option maxRecDepth 20000 in
theorem gX13_chosenAt_X13_isMuchAt : GoodIn wsX13_chosenAt (wsV RX13 299 RX13 yX13_isMuchAt wsX13_isMuchAt) := goodIn_app (goodIn_r _ [5, 6, 7, 8] rfl (by decide +kernel)) ggX13_chosenAt_X13_isMuchAt
theorem hv_X13_comparedAt : yX13_comparedAt.cls = RX13 ∧ yX13_comparedAt.cls ≠ "java/lang/invoke/MethodHandle" ∧ yX13_comparedAt.cls ≠ "java/lang/invoke/VarHandle" ∧ (parseMethodDescriptor yX13_comparedAt.desc).map (fun d => d.parameters.length) = some 4 := by decide +kernel
theorem hv_X13_isMuchAt : yX13_isMuchAt.cls = RX13 ∧ yX13_isMuchAt.cls ≠ "java/lang/invoke/MethodHandle" ∧ yX13_isMuchAt.cls ≠ "java/lang/invoke/VarHandle" ∧ (parseMethodDescriptor yX13_isMuchAt.desc).map (fun d => d.parameters.length) = some 3 := by decide +kernel
set_option maxRecDepth 20000 in
theorem in_X13_chosenAt_X13 : ∀ w ∈ wsX130, w ∈ wsX13_chosenAt := sub_r [27, 28, 29, 30, 31, 32, 33, 34, 35, 36, 37, 38, 39, 40, 41, 42, 43, 44, 45, 46, 47, 48, 49, 50, 51, 52, 53, 54, 55, 56, 57, 58, 59, 60, 61, 62, 63, 64, 65, 66, 67, 68, 69, 70, 71] rfl
set_option maxHeartbeats 4000000 in
set_option maxRecDepth 100000 in
theorem c_X13_chosenAt (l : Launch) (D : va_G) (T : Nat → ClassId) (sz : Nat) (h0 : Nat) (q : Nat → Int32) (v : Int64) (w : Int64) (a : Nat → Nat) (f8 : Nat → Int32) (f9 : Nat → Int32) (f10 : Nat → Int32) (f11 : Nat → Int32) (f17 : Nat → Int32) (f20 : Nat → Int64) (f21 : Nat → Int64) (f22 : Nat → Int32) (x1 : Int32) (x2 : Int32) (x3 : Int32) (hZ : ∀ j : Nat, isB (f22 j)) (hx1 : 0 ≤ x1.toInt ∧ x1.toInt < 24) (hx2 : 0 ≤ x2.toInt ∧ x2.toInt ≤ 6) (hx3 : 0 ≤ x3.toInt ∧ x3.toInt ≤ x2.toInt) (hc9 : 0 ≤ (f10 (x1.toNatClampNeg)).toInt ∧ (f10 (x1.toNatClampNeg)).toInt < x1.toInt) (hd9 : 0 ≤ (f11 (x1.toNatClampNeg)).toInt ∧ (f11 (x1.toNatClampNeg)).toInt < x1.toInt) (hWB1 : ∀ j : Nat, (j : Int) < 28 * x1.toInt → 1 ≤ (f21 j).toInt) (hk67 : (f8 (x1.toNatClampNeg)).toInt = 6 ∨ (f8 (x1.toNatClampNeg)).toInt = 7) : Met l yX13_chosenAt wsX13_chosenAt ({ frames := 131, cells := 0, slots := 0, locals := 5201 }) (pW [.ref h0, .int x1, .int x2, .int x3] D T [(h0, .inr (10, (Value.int (q 0) :: Value.int (q 1) :: Value.int (q 2) :: Value.int (q 3) :: Value.int (q 4) :: Value.int (q 5) :: Value.int (q 6) :: Value.int (q 7) :: Value.ref (a 8) :: Value.ref (a 9) :: Value.ref (a 10) :: Value.ref (a 11) :: Value.ref (a 12) :: Value.ref (a 13) :: Value.int (q 14) :: Value.long v :: Value.long w :: Value.ref (a 17) :: Value.ref (a 18) :: Value.ref (a 19) :: Value.ref (a 20) :: Value.ref (a 21) :: Value.ref (a 22) :: Value.ref (a 23) :: Value.int (q 24) :: Value.ref (a 25) :: Value.int (q 26) :: Value.ref (a 27) :: Value.int (q 28) :: Value.int (q 29) :: Value.int (q 30) :: Value.int (q 31) :: Value.int (q 32) :: Value.int (q 33) :: Value.ref (a 34) :: Value.ref (a 35) :: Value.ref (a 36) :: Value.ref (a 37) :: Value.ref (a 38) :: Value.ref (a 39) :: Value.ref (a 40) :: Value.int (q 41) :: Value.ref (a 42) :: Value.int (q 43) :: Value.int (q 44) :: []))), ((a 8), .inl (T 0, 24, .inl f8)), ((a 9), .inl (T 0, 24, .inl f9)), ((a 10), .inl (T 0, 24, .inl f10)), ((a 11), .inl (T 0, 24, .inl f11)), ((a 17), .inl (T 0, 24, .inl f17)), ((a 20), .inl (T 1, 672, .inr (.inl f20))), ((a 21), .inl (T 1, 672, .inr (.inl f21))), ((a 22), .inl (T 4, 672, .inl f22))] sz) (va_Qi (fun (r : Int32) (u : Unit) => (r.toInt = -5 ∨ (0 ≤ r.toInt ∧ r.toInt < x1.toInt)) ∧ (r = pickW (lqW (q 0) (q 1) (q 2) (q 3) (q 4) (q 5) (q 6)) f8 f9 f10 f11 f17 (tabW f20 f21 f22) x1 x2 x3)) (bW D (va_A [(h0, .inr (10, (Value.int (q 0) :: Value.int (q 1) :: Value.int (q 2) :: Value.int (q 3) :: Value.int (q 4) :: Value.int (q 5) :: Value.int (q 6) :: Value.int (q 7) :: Value.ref (a 8) :: Value.ref (a 9) :: Value.ref (a 10) :: Value.ref (a 11) :: Value.ref (a 12) :: Value.ref (a 13) :: Value.int (q 14) :: Value.long v :: Value.long w :: Value.ref (a 17) :: Value.ref (a 18) :: Value.ref (a 19) :: Value.ref (a 20) :: Value.ref (a 21) :: Value.ref (a 22) :: Value.ref (a 23) :: Value.int (q 24) :: Value.ref (a 25) :: Value.int (q 26) :: Value.ref (a 27) :: Value.int (q 28) :: Value.int (q 29) :: Value.int (q 30) :: Value.int (q 31) :: Value.int (q 32) :: Value.int (q 33) :: Value.ref (a 34) :: Value.ref (a 35) :: Value.ref (a 36) :: Value.ref (a 37) :: Value.ref (a 38) :: Value.ref (a 39) :: Value.ref (a 40) :: Value.int (q 41) :: Value.ref (a 42) :: Value.int (q 43) :: Value.int (q 44) :: []))), ((a 8), .inl (T 0, 24, .inl f8)), ((a 9), .inl (T 0, 24, .inl f9)), ((a 10), .inl (T 0, 24, .inl f10)), ((a 11), .inl (T 0, 24, .inl f11)), ((a 17), .inl (T 0, 24, .inl f17)), ((a 20), .inl (T 1, 672, .inr (.inl f20))), ((a 21), .inl (T 1, 672, .inr (.inl f21))), ((a 22), .inl (T 4, 672, .inl f22))] sz) (fun (u : Unit) => [(h0, .inr (10, (Value.int (q 0) :: Value.int (q 1) :: Value.int (q 2) :: Value.int (q 3) :: Value.int (q 4) :: Value.int (q 5) :: Value.int (q 6) :: Value.int (q 7) :: Value.ref (a 8) :: Value.ref (a 9) :: Value.ref (a 10) :: Value.ref (a 11) :: Value.ref (a 12) :: Value.ref (a 13) :: Value.int (q 14) :: Value.long v :: Value.long w :: Value.ref (a 17) :: Value.ref (a 18) :: Value.ref (a 19) :: Value.ref (a 20) :: Value.ref (a 21) :: Value.ref (a 22) :: Value.ref (a 23) :: Value.int (q 24) :: Value.ref (a 25) :: Value.int (q 26) :: Value.ref (a 27) :: Value.int (q 28) :: Value.int (q 29) :: Value.int (q 30) :: Value.int (q 31) :: Value.int (q 32) :: Value.int (q 33) :: Value.ref (a 34) :: Value.ref (a 35) :: Value.ref (a 36) :: Value.ref (a 37) :: Value.ref (a 38) :: Value.ref (a 39) :: Value.ref (a 40) :: Value.int (q 41) :: Value.ref (a 42) :: Value.int (q 43) :: Value.int (q 44) :: []))), ((a 8), .inl (T 0, 24, .inl f8)), ((a 9), .inl (T 0, 24, .inl f9)), ((a 10), .inl (T 0, 24, .inl f10)), ((a 11), .inl (T 0, 24, .inl f11)), ((a 17), .inl (T 0, 24, .inl f17)), ((a 20), .inl (T 1, 672, .inr (.inl f20))), ((a 21), .inl (T 1, 672, .inr (.inl f21))), ((a 22), .inl (T 4, 672, .inl f22))])) (va_A [(h0, .inr (10, (Value.int (q 0) :: Value.int (q 1) :: Value.int (q 2) :: Value.int (q 3) :: Value.int (q 4) :: Value.int (q 5) :: Value.int (q 6) :: Value.int (q 7) :: Value.ref (a 8) :: Value.ref (a 9) :: Value.ref (a 10) :: Value.ref (a 11) :: Value.ref (a 12) :: Value.ref (a 13) :: Value.int (q 14) :: Value.long v :: Value.long w :: Value.ref (a 17) :: Value.ref (a 18) :: Value.ref (a 19) :: Value.ref (a 20) :: Value.ref (a 21) :: Value.ref (a 22) :: Value.ref (a 23) :: Value.int (q 24) :: Value.ref (a 25) :: Value.int (q 26) :: Value.ref (a 27) :: Value.int (q 28) :: Value.int (q 29) :: Value.int (q 30) :: Value.int (q 31) :: Value.int (q 32) :: Value.int (q 33) :: Value.ref (a 34) :: Value.ref (a 35) :: Value.ref (a 36) :: Value.ref (a 37) :: Value.ref (a 38) :: Value.ref (a 39) :: Value.ref (a 40) :: Value.int (q 41) :: Value.ref (a 42) :: Value.int (q 43) :: Value.int (q 44) :: []))), ((a 8), .inl (T 0, 24, .inl f8)), ((a 9), .inl (T 0, 24, .inl f9)), ((a 10), .inl (T 0, 24, .inl f10)), ((a 11), .inl (T 0, 24, .inl f11)), ((a 17), .inl (T 0, 24, .inl f17)), ((a 20), .inl (T 1, 672, .inr (.inl f20))), ((a 21), .inl (T 1, 672, .inr (.inl f21))), ((a 22), .inl (T 4, 672, .inl f22))] sz)) 0 0 (va_A [(h0, .inr (10, (Value.int (q 0) :: Value.int (q 1) :: Value.int (q 2) :: Value.int (q 3) :: Value.int (q 4) :: Value.int (q 5) :: Value.int (q 6) :: Value.int (q 7) :: Value.ref (a 8) :: Value.ref (a 9) :: Value.ref (a 10) :: Value.ref (a 11) :: Value.ref (a 12) :: Value.ref (a 13) :: Value.int (q 14) :: Value.long v :: Value.long w :: Value.ref (a 17) :: Value.ref (a 18) :: Value.ref (a 19) :: Value.ref (a 20) :: Value.ref (a 21) :: Value.ref (a 22) :: Value.ref (a 23) :: Value.int (q 24) :: Value.ref (a 25) :: Value.int (q 26) :: Value.ref (a 27) :: Value.int (q 28) :: Value.int (q 29) :: Value.int (q 30) :: Value.int (q 31) :: Value.int (q 32) :: Value.int (q 33) :: Value.ref (a 34) :: Value.ref (a 35) :: Value.ref (a 36) :: Value.ref (a 37) :: Value.ref (a 38) :: Value.ref (a 39) :: Value.ref (a 40) :: Value.int (q 41) :: Value.ref (a 42) :: Value.int (q 43) :: Value.int (q 44) :: []))), ((a 8), .inl (T 0, 24, .inl f8)), ((a 9), .inl (T 0, 24, .inl f9)), ((a 10), .inl (T 0, 24, .inl f10)), ((a 11), .inl (T 0, 24, .inl f11)), ((a 17), .inl (T 0, 24, .inl f17)), ((a 20), .inl (T 1, 672, .inr (.inl f20))), ((a 21), .inl (T 1, 672, .inr (.inl f21))), ((a 22), .inl (T 4, 672, .inl f22))] sz) := by
  refine Met.ofW (cc := cX13_chosenAt) (maxL := 7) (ret := (some .int)) (by decide +kernel) rfl ?_
  intro p e s m args below meth c s₁ B hml hv
  obtain ⟨rfl, hsz, hP, hE, hD0⟩ := hv
  have hx := B.exec
  have hb := B.bytes
  have hr := B.returns
  have hts := atoms_spec (ws := wsX13_chosenAt) B.pre
  have hown : s.vm.findClass RX13 = some m.cls := findClass_of_methodNamed B.named
  have hlocks := B.notSynchronized
  subst hsz
  have hD := hD0.self (sz := s.heap.size)
  generalize hAe : va_A [(h0, .inr (10, (Value.int (q 0) :: Value.int (q 1) :: Value.int (q 2) :: Value.int (q 3) :: Value.int (q 4) :: Value.int (q 5) :: Value.int (q 6) :: Value.int (q 7) :: Value.ref (a 8) :: Value.ref (a 9) :: Value.ref (a 10) :: Value.ref (a 11) :: Value.ref (a 12) :: Value.ref (a 13) :: Value.int (q 14) :: Value.long v :: Value.long w :: Value.ref (a 17) :: Value.ref (a 18) :: Value.ref (a 19) :: Value.ref (a 20) :: Value.ref (a 21) :: Value.ref (a 22) :: Value.ref (a 23) :: Value.int (q 24) :: Value.ref (a 25) :: Value.int (q 26) :: Value.ref (a 27) :: Value.int (q 28) :: Value.int (q 29) :: Value.int (q 30) :: Value.int (q 31) :: Value.int (q 32) :: Value.int (q 33) :: Value.ref (a 34) :: Value.ref (a 35) :: Value.ref (a 36) :: Value.ref (a 37) :: Value.ref (a 38) :: Value.ref (a 39) :: Value.ref (a 40) :: Value.int (q 41) :: Value.ref (a 42) :: Value.int (q 43) :: Value.int (q 44) :: []))), ((a 8), .inl (T 0, 24, .inl f8)), ((a 9), .inl (T 0, 24, .inl f9)), ((a 10), .inl (T 0, 24, .inl f10)), ((a 11), .inl (T 0, 24, .inl f11)), ((a 17), .inl (T 0, 24, .inl f17)), ((a 20), .inl (T 1, 672, .inr (.inl f20))), ((a 21), .inl (T 1, 672, .inr (.inl f21))), ((a 22), .inl (T 4, 672, .inl f22))] s.heap.size = A at hD ⊢
  have hA : ∀ q : Nat, s.heap.size ≤ q → A q := fun q h => by rw [← hAe]; exact Or.inr h
  have hS : va_S A s.heap s.heap [] := va_S.rf
  have hP : va_P D vwCl [(h0, .inr (10, (Value.int (q 0) :: Value.int (q 1) :: Value.int (q 2) :: Value.int (q 3) :: Value.int (q 4) :: Value.int (q 5) :: Value.int (q 6) :: Value.int (q 7) :: Value.ref (a 8) :: Value.ref (a 9) :: Value.ref (a 10) :: Value.ref (a 11) :: Value.ref (a 12) :: Value.ref (a 13) :: Value.int (q 14) :: Value.long v :: Value.long w :: Value.ref (a 17) :: Value.ref (a 18) :: Value.ref (a 19) :: Value.ref (a 20) :: Value.ref (a 21) :: Value.ref (a 22) :: Value.ref (a 23) :: Value.int (q 24) :: Value.ref (a 25) :: Value.int (q 26) :: Value.ref (a 27) :: Value.int (q 28) :: Value.int (q 29) :: Value.int (q 30) :: Value.int (q 31) :: Value.int (q 32) :: Value.int (q 33) :: Value.ref (a 34) :: Value.ref (a 35) :: Value.ref (a 36) :: Value.ref (a 37) :: Value.ref (a 38) :: Value.ref (a 39) :: Value.ref (a 40) :: Value.int (q 41) :: Value.ref (a 42) :: Value.int (q 43) :: Value.int (q 44) :: []))), ((a 8), .inl (T 0, 24, .inl f8)), ((a 9), .inl (T 0, 24, .inl f9)), ((a 10), .inl (T 0, 24, .inl f10)), ((a 11), .inl (T 0, 24, .inl f11)), ((a 17), .inl (T 0, 24, .inl f17)), ((a 20), .inl (T 1, 672, .inr (.inl f20))), ((a 21), .inl (T 1, 672, .inr (.inl f21))), ((a 22), .inl (T 4, 672, .inl f22))] s.heap := hP
  have hl := lv_entry ([.ref h0, .int x1, .int x2, .int x3]) (n := 7) (Nat.le_of_ble_eq_true rfl)
  rw [lg_entry_eq]
  generalize (lg_sl ([.ref h0, .int x1, .int x2, .int x3]) ++ List.replicate (7 - (lg_sl ([.ref h0, .int x1, .int x2, .int x3])).length) Slot.unset).toArray = ls at hl ⊢
  have hl : lv_has ls 7 [(0, .ref h0), (1, .int x1), (2, .int x2), (3, .int x3)] := hl
  clear hD0
  have ht := tri_in (d := x2.toInt) (by omega)
  have tk9 := tn (x := f8 (x1.toNatClampNeg)) (by omega)
  refine lv_aload_n hx hb dX13_chosenAt_0 rfl (lv_at hl 0 rfl) ?_
  refine va_get (D := D) (ci := 10) (v := .ref (a 10)) (C := RX13) (T := TX13) (N := 45) hx hb hts in_X13_chosenAt_X13 hown hE.1 hP 0 rfl rfl 10 (by decide +kernel) (hts (.fieldLink RX13 35 "ClauseBookModel" "one" "[I") (List.mem_of_getElem? (i := 1) rfl)) (fun _ h9 => h9) rfl dX13_chosenAt_1 ?_
  refine lv_iload_n hx hb dX13_chosenAt_4 rfl (lv_at hl 1 rfl) ?_
  refine va_iald hx hb hE.1 hP 3 0 rfl rfl (by rw [vp_in_iff]; first | omega | (subst_vars; omega)) dX13_chosenAt_5 ?_
  refine lv_topi (fun z_1 ez_1 => ?_)
  refine lv_istore (lv' := [(4, .int z_1), (0, .ref h0), (1, .int x1), (2, .int x2), (3, .int x3)]) hx hb dX13_chosenAt_6 hl (by decide +kernel) rfl (fun ls hl => ?_)
  have htz_1 : z_1.toInt = (f10 (x1.toNatClampNeg)).toInt := by rw [ez_1]
  refine lv_aload_n hx hb dX13_chosenAt_8 rfl (lv_at hl 1 rfl) ?_
  refine va_get (D := D) (ci := 10) (v := .ref (a 11)) (C := RX13) (T := TX13) (N := 45) hx hb hts in_X13_chosenAt_X13 hown hE.1 hP 0 rfl rfl 11 (by decide +kernel) (hts (.fieldLink RX13 38 "ClauseBookModel" "two" "[I") (List.mem_of_getElem? (i := 2) rfl)) (fun _ h9 => h9) rfl dX13_chosenAt_9 ?_
  refine lv_iload_n hx hb dX13_chosenAt_12 rfl (lv_at hl 2 rfl) ?_
  refine va_iald hx hb hE.1 hP 4 0 rfl rfl (by rw [vp_in_iff]; first | omega | (subst_vars; omega)) dX13_chosenAt_13 ?_
  refine lv_topi (fun z_2 ez_2 => ?_)
  refine lv_istore (lv' := [(5, .int z_2), (4, .int z_1), (0, .ref h0), (1, .int x1), (2, .int x2), (3, .int x3)]) hx hb dX13_chosenAt_14 hl (by decide +kernel) rfl (fun ls hl => ?_)
  have htz_2 : z_2.toInt = (f11 (x1.toNatClampNeg)).toInt := by rw [ez_2]
  refine lv_iload_n hx hb dX13_chosenAt_16 rfl (lv_at hl 4 rfl) ?_
  refine lv_aload_n hx hb dX13_chosenAt_17 rfl (lv_at hl 2 rfl) ?_
  refine va_get (D := D) (ci := 10) (v := .ref (a 17)) (C := RX13) (T := TX13) (N := 45) hx hb hts in_X13_chosenAt_X13 hown hE.1 hP 0 rfl rfl 17 (by decide +kernel) (hts (.fieldLink RX13 47 "ClauseBookModel" "end" "[I") (List.mem_of_getElem? (i := 3) rfl)) (fun _ h9 => h9) rfl dX13_chosenAt_18 ?_
  refine lv_iload hx hb dX13_chosenAt_21 (lv_at hl 1 rfl) ?_
  refine va_iald hx hb hE.1 hP 5 0 rfl rfl (by rw [vp_in_iff]; first | omega | (subst_vars; omega)) dX13_chosenAt_23 ?_
  refine lv_topi (fun z_3 ez_3 => ?_)
  have hzz_3 : z_3.toInt = (f17 ((f10 (x1.toNatClampNeg)).toNatClampNeg)).toInt := by rw [ez_3, ez_1]
  refine lv_icmp_gt (tgt := 38) hx hb dX13_chosenAt_24 (by decide +kernel) (fun c_4 => ?_) (fun c_4 => ?_)
  · rw [fa_lt] at c_4
    refine lv_iload_n hx hb dX13_chosenAt_38 rfl (lv_at hl 4 rfl) ?_
    refine lv_aload_n hx hb dX13_chosenAt_39 rfl (lv_at hl 2 rfl) ?_
    refine va_get (D := D) (ci := 10) (v := .ref (a 17)) (C := RX13) (T := TX13) (N := 45) hx hb hts in_X13_chosenAt_X13 hown hE.1 hP 0 rfl rfl 17 (by decide +kernel) (hts (.fieldLink RX13 47 "ClauseBookModel" "end" "[I") (List.mem_of_getElem? (i := 3) rfl)) (fun _ h9 => h9) rfl dX13_chosenAt_40 ?_
    refine lv_iload hx hb dX13_chosenAt_43 (lv_at hl 1 rfl) ?_
    refine va_iald hx hb hE.1 hP 5 0 rfl rfl (by rw [vp_in_iff]; first | omega | (subst_vars; omega)) dX13_chosenAt_45 ?_
    refine lv_topi (fun z_5 ez_5 => ?_)
    have hzz_5 : z_5.toInt = (f17 ((f10 (x1.toNatClampNeg)).toNatClampNeg)).toInt := by rw [ez_5, ez_1]
    refine lv_icmp_le (tgt := 54) hx hb dX13_chosenAt_46 (by decide +kernel) (fun c_6 => ?_) (fun c_6 => ?_)
    · rw [fa_le] at c_6
      refine lv_iload hx hb dX13_chosenAt_54 (lv_at hl 1 rfl) ?_
      exact W.iret hx hb hr (fun t ht hW => ⟨⟨_, (), rfl, ⟨(show z_1.toInt = -5 ∨ (0 ≤ z_1.toInt ∧ z_1.toInt < x1.toInt) from (Or.inr (by omega))), (show z_1 = pickW (lqW (q 0) (q 1) (q 2) (q 3) (q 4) (q 5) (q 6)) f8 f9 f10 f11 f17 (tabW f20 f21 f22) x1 x2 x3 from (ez_1.trans (pk_d (by omega) (by omega) (by omega) (Or.inr (by omega))).symm))⟩, by rw [ht]; exact hP.sub [0, 1, 2, 3, 4, 5, 6, 7, 8] rfl, hD.sub [0, 1, 2, 3, 4, 5, 6, 7, 8] (by decide +kernel) rfl⟩, hS.F ht⟩) hS.2.2 dX13_chosenAt_56
    · rw [fa_le] at c_6
      refine lv_iload hx hb dX13_chosenAt_49 (lv_at hl 0 rfl) ?_
      refine lv_goto (tgt := 56) hx hb dX13_chosenAt_51 (by decide +kernel) ?_
      exact W.iret hx hb hr (fun t ht hW => ⟨⟨_, (), rfl, ⟨(show z_2.toInt = -5 ∨ (0 ≤ z_2.toInt ∧ z_2.toInt < x1.toInt) from (Or.inr (by omega))), (show z_2 = pickW (lqW (q 0) (q 1) (q 2) (q 3) (q 4) (q 5) (q 6)) f8 f9 f10 f11 f17 (tabW f20 f21 f22) x1 x2 x3 from (ez_2.trans (pk_c (by omega) (by omega) (by omega)).symm))⟩, by rw [ht]; exact hP.sub [0, 1, 2, 3, 4, 5, 6, 7, 8] rfl, hD.sub [0, 1, 2, 3, 4, 5, 6, 7, 8] (by decide +kernel) rfl⟩, hS.F ht⟩) hS.2.2 dX13_chosenAt_56
  · rw [fa_lt] at c_4
    refine lv_iload_n hx hb dX13_chosenAt_27 rfl (lv_at hl 4 rfl) ?_
    refine lv_aload_n hx hb dX13_chosenAt_28 rfl (lv_at hl 2 rfl) ?_
    refine va_get (D := D) (ci := 10) (v := .ref (a 17)) (C := RX13) (T := TX13) (N := 45) hx hb hts in_X13_chosenAt_X13 hown hE.1 hP 0 rfl rfl 17 (by decide +kernel) (hts (.fieldLink RX13 47 "ClauseBookModel" "end" "[I") (List.mem_of_getElem? (i := 3) rfl)) (fun _ h9 => h9) rfl dX13_chosenAt_29 ?_
    refine lv_iload hx hb dX13_chosenAt_32 (lv_at hl 0 rfl) ?_
    refine va_iald hx hb hE.1 hP 5 0 rfl rfl (by rw [vp_in_iff]; first | omega | (subst_vars; omega)) dX13_chosenAt_34 ?_
    refine lv_topi (fun z_7 ez_7 => ?_)
    have hzz_7 : z_7.toInt = (f17 ((f11 (x1.toNatClampNeg)).toNatClampNeg)).toInt := by rw [ez_7, ez_2]
    refine lv_icmp_le (tgt := 57) hx hb dX13_chosenAt_35 (by decide +kernel) (fun c_8 => ?_) (fun c_8 => ?_)
    · rw [fa_le] at c_8
      refine lv_aload_n hx hb dX13_chosenAt_57 rfl (lv_at hl 2 rfl) ?_
      refine lv_iload hx hb dX13_chosenAt_58 (lv_at hl 1 rfl) ?_
      refine lv_iload_n hx hb dX13_chosenAt_60 rfl (lv_at hl 4 rfl) ?_
      refine lv_iload_n hx hb dX13_chosenAt_61 rfl (lv_at hl 5 rfl) ?_
      refine vp_callSi (W.runV (As := [.int z_1, .int x2, .int x3]) (rest := []) ⟨hx, hb, hml, hown, hts⟩ (c_X13_isMuchAt l D T h0 [.int (q 0), .int (q 1), .int (q 2), .int (q 3), .int (q 4), .int (q 5), .int (q 6), .int (q 7), .ref (a 8), .ref (a 9), .ref (a 10), .ref (a 11), .ref (a 12), .ref (a 13), .int (q 14), .long v, .long w, .ref (a 17), .ref (a 18), .ref (a 19), .ref (a 20), .ref (a 21), .ref (a 22), .ref (a 23), .int (q 24), .ref (a 25), .int (q 26), .ref (a 27), .int (q 28), .int (q 29), .int (q 30), .int (q 31), .int (q 32), .int (q 33), .ref (a 34), .ref (a 35), .ref (a 36), .ref (a 37), .ref (a 38), .ref (a 39), .ref (a 40), .int (q 41), .ref (a 42), .int (q 43), .int (q 44)] (a 22) f22 z_1 x2 x3 rfl hZ (by omega) (by omega) (by omega)) (cwV 3 hts gX13_chosenAt_X13_isMuchAt rfl rfl rfl hv_X13_isMuchAt ⟨Nat.le_of_ble_eq_true rfl, Nat.le_of_ble_eq_true rfl⟩) (pR_V (q := (RX13, TX13, 45)) (ci := 10) (q0 := 0) hP hE rfl rfl [0, 8] rfl) rfl rfl hl.1 rfl (lv_room (Nat.le_of_ble_eq_true rfl)) dX13_chosenAt_62 ⟨Nat.le_of_ble_eq_true rfl, Nat.le_of_ble_eq_true rfl⟩) (fun r_9 hr_9 => ?_)
      refine lv_if_ne (tgt := 79) hx hb dX13_chosenAt_65 (by decide +kernel) (fun c_10 => ?_) (fun c_10 => ?_)
      · rw [fa_eq] at c_10
        try rw [ti_0] at c_10
        refine lv_bipush (v := (-5)) hx hb dX13_chosenAt_79 (by decide +kernel) ?_
        exact W.iret hx hb hr (fun t ht hW => ⟨⟨_, (), rfl, ⟨(show ((-5) : Int32).toInt = -5 ∨ (0 ≤ ((-5) : Int32).toInt ∧ ((-5) : Int32).toInt < x1.toInt) from (Or.inl (by decide +kernel))), (show ((-5) : Int32) = pickW (lqW (q 0) (q 1) (q 2) (q 3) (q 4) (q 5) (q 6)) f8 f9 f10 f11 f17 (tabW f20 f21 f22) x1 x2 x3 from ((pk_m (by omega) (by omega) (by omega) (by omega) (by rw [← ez_1, ← ez_2]; exact Or.inl (tab_m0 (by rw [← hr_9.2]; omega)))).symm))⟩, by rw [ht]; exact hP.sub [0, 1, 2, 3, 4, 5, 6, 7, 8] rfl, hD.sub [0, 1, 2, 3, 4, 5, 6, 7, 8] (by decide +kernel) rfl⟩, hS.F ht⟩) hS.2.2 dX13_chosenAt_81
      · rw [fa_eq] at c_10
        try rw [ti_0] at c_10
        refine lv_aload_n hx hb dX13_chosenAt_68 rfl (lv_at hl 2 rfl) ?_
        refine lv_iload hx hb dX13_chosenAt_69 (lv_at hl 0 rfl) ?_
        refine lv_iload_n hx hb dX13_chosenAt_71 rfl (lv_at hl 4 rfl) ?_
        refine lv_iload_n hx hb dX13_chosenAt_72 rfl (lv_at hl 5 rfl) ?_
        refine vp_callSi (W.runV (As := [.int z_2, .int x2, .int x3]) (rest := []) ⟨hx, hb, hml, hown, hts⟩ (c_X13_isMuchAt l D T h0 [.int (q 0), .int (q 1), .int (q 2), .int (q 3), .int (q 4), .int (q 5), .int (q 6), .int (q 7), .ref (a 8), .ref (a 9), .ref (a 10), .ref (a 11), .ref (a 12), .ref (a 13), .int (q 14), .long v, .long w, .ref (a 17), .ref (a 18), .ref (a 19), .ref (a 20), .ref (a 21), .ref (a 22), .ref (a 23), .int (q 24), .ref (a 25), .int (q 26), .ref (a 27), .int (q 28), .int (q 29), .int (q 30), .int (q 31), .int (q 32), .int (q 33), .ref (a 34), .ref (a 35), .ref (a 36), .ref (a 37), .ref (a 38), .ref (a 39), .ref (a 40), .int (q 41), .ref (a 42), .int (q 43), .int (q 44)] (a 22) f22 z_2 x2 x3 rfl hZ (by omega) (by omega) (by omega)) (cwV 3 hts gX13_chosenAt_X13_isMuchAt rfl rfl rfl hv_X13_isMuchAt ⟨Nat.le_of_ble_eq_true rfl, Nat.le_of_ble_eq_true rfl⟩) (pR_V (q := (RX13, TX13, 45)) (ci := 10) (q0 := 0) hP hE rfl rfl [0, 8] rfl) rfl rfl hl.1 rfl (lv_room (Nat.le_of_ble_eq_true rfl)) dX13_chosenAt_73 ⟨Nat.le_of_ble_eq_true rfl, Nat.le_of_ble_eq_true rfl⟩) (fun r_11 hr_11 => ?_)
        refine lv_if_eq (tgt := 82) hx hb dX13_chosenAt_76 (by decide +kernel) (fun c_12 => ?_) (fun c_12 => ?_)
        · rw [fa_eq] at c_12
          try rw [ti_0] at c_12
          refine lv_aload_n hx hb dX13_chosenAt_82 rfl (lv_at hl 2 rfl) ?_
          refine lv_iload hx hb dX13_chosenAt_83 (lv_at hl 0 rfl) ?_
          refine lv_iload hx hb dX13_chosenAt_85 (lv_at hl 1 rfl) ?_
          refine lv_iload_n hx hb dX13_chosenAt_87 rfl (lv_at hl 4 rfl) ?_
          refine lv_iload_n hx hb dX13_chosenAt_88 rfl (lv_at hl 5 rfl) ?_
          refine vp_callSi (W.runV (As := [.int z_2, .int z_1, .int x2, .int x3]) (rest := []) ⟨hx, hb, hml, hown, hts⟩ (c_X13_comparedAt l D T h0 [.int (q 0), .int (q 1), .int (q 2), .int (q 3), .int (q 4), .int (q 5), .int (q 6), .int (q 7), .ref (a 8), .ref (a 9), .ref (a 10), .ref (a 11), .ref (a 12), .ref (a 13), .int (q 14), .long v, .long w, .ref (a 17), .ref (a 18), .ref (a 19), .ref (a 20), .ref (a 21), .ref (a 22), .ref (a 23), .int (q 24), .ref (a 25), .int (q 26), .ref (a 27), .int (q 28), .int (q 29), .int (q 30), .int (q 31), .int (q 32), .int (q 33), .ref (a 34), .ref (a 35), .ref (a 36), .ref (a 37), .ref (a 38), .ref (a 39), .ref (a 40), .int (q 41), .ref (a 42), .int (q 43), .int (q 44)] (a 20) f20 (a 21) f21 z_2 z_1 x2 x3 rfl rfl (by omega) (by omega) (by omega) (by omega) (fun j hj => hWB1 j (by omega)) (fun j hj => hWB1 j (by omega))) (cwV 4 hts gX13_chosenAt_X13_comparedAt rfl rfl rfl hv_X13_comparedAt ⟨Nat.le_of_ble_eq_true rfl, Nat.le_of_ble_eq_true rfl⟩) (pR_V (q := (RX13, TX13, 45)) (ci := 10) (q0 := 0) hP hE rfl rfl [0, 6, 7] rfl) rfl rfl hl.1 rfl (lv_room (Nat.le_of_ble_eq_true rfl)) dX13_chosenAt_89 ⟨Nat.le_of_ble_eq_true rfl, Nat.le_of_ble_eq_true rfl⟩) (fun r_13 hr_13 => ?_)
          have hz_m1 : (f22 (slN z_1 x2 x3)).toInt = 0 := by rw [← hr_9.2]; omega
          have hb_m1 : 1 ≤ (f21 (slN z_1 x2 x3)).toInt := hWB1 _ (slN_b (by omega) ⟨⟨(by omega), (by omega)⟩, (by omega), (by omega)⟩)
          have hz_m2 : (f22 (slN z_2 x2 x3)).toInt = 0 := by rw [← hr_11.2]; omega
          have hb_m2 : 1 ≤ (f21 (slN z_2 x2 x3)).toInt := hWB1 _ (slN_b (by omega) ⟨⟨(by omega), (by omega)⟩, (by omega), (by omega)⟩)
          have hmm9 : ¬ ((tabW f20 f21 f22 z_1 x2 x3).2.toInt = 0 ∨ (tabW f20 f21 f22 z_2 x2 x3).2.toInt = 0) := fun h9 => h9.elim (tab_m1 hz_m1 hb_m1) (tab_m1 hz_m2 hb_m2)
          have hco9 : cmpP (tabW f20 f21 f22 z_2 x2 x3) (tabW f20 f21 f22 z_1 x2 x3) = r_13.toInt := (tab_cmp hz_m2 hz_m1).trans hr_13.symm
          refine lv_istore (lv' := [(6, .int r_13), (5, .int z_2), (4, .int z_1), (0, .ref h0), (1, .int x1), (2, .int x2), (3, .int x3)]) hx hb dX13_chosenAt_92 hl (by decide +kernel) rfl (fun ls hl => ?_)
          refine lv_aload_n hx hb dX13_chosenAt_94 rfl (lv_at hl 3 rfl) ?_
          refine va_get (D := D) (ci := 10) (v := .ref (a 8)) (C := RX13) (T := TX13) (N := 45) hx hb hts in_X13_chosenAt_X13 hown hE.1 hP 0 rfl rfl 8 (by decide +kernel) (hts (.fieldLink RX13 28 "ClauseBookModel" "kind" "[I") (List.mem_of_getElem? (i := 4) rfl)) (fun _ h9 => h9) rfl dX13_chosenAt_95 ?_
          refine lv_iload_n hx hb dX13_chosenAt_98 rfl (lv_at hl 4 rfl) ?_
          refine va_iald hx hb hE.1 hP 1 0 rfl rfl (by rw [vp_in_iff]; first | omega | (subst_vars; omega)) dX13_chosenAt_99 ?_
          refine lv_topi (fun z_14 ez_14 => ?_)
          have htz_14 : z_14.toInt = (f8 (x1.toNatClampNeg)).toInt := by rw [ez_14]
          refine lv_bipush (v := 6) hx hb dX13_chosenAt_100 (by decide +kernel) ?_
          refine lv_icmp_ne (tgt := 113) hx hb dX13_chosenAt_102 (by decide +kernel) (fun c_15 => ?_) (fun c_15 => ?_)
          · rw [fa_eq] at c_15
            try rw [ti_6] at c_15
            refine lv_iload hx hb dX13_chosenAt_113 (lv_at hl 0 rfl) ?_
            refine lv_if_ge (tgt := 123) hx hb dX13_chosenAt_115 (by decide +kernel) (fun c_16 => ?_) (fun c_16 => ?_)
            · rw [fa_le] at c_16
              try rw [ti_0] at c_16
              refine lv_iload hx hb dX13_chosenAt_123 (lv_at hl 2 rfl) ?_
              exact W.iret hx hb hr (fun t ht hW => ⟨⟨_, (), rfl, ⟨(show z_1.toInt = -5 ∨ (0 ≤ z_1.toInt ∧ z_1.toInt < x1.toInt) from (Or.inr (by omega))), (show z_1 = pickW (lqW (q 0) (q 1) (q 2) (q 3) (q 4) (q 5) (q 6)) f8 f9 f10 f11 f17 (tabW f20 f21 f22) x1 x2 x3 from (ez_1.trans (pk_n (by omega) (by omega) (by omega) (by omega) (by rw [← ez_1, ← ez_2]; exact hmm9) (by rw [← ez_2, ← ez_1, hco9]; omega)).symm))⟩, by rw [ht]; exact hP.sub [0, 1, 2, 3, 4, 5, 6, 7, 8] rfl, hD.sub [0, 1, 2, 3, 4, 5, 6, 7, 8] (by decide +kernel) rfl⟩, hS.F ht⟩) hS.2.2 dX13_chosenAt_125
            · rw [fa_le] at c_16
              try rw [ti_0] at c_16
              refine lv_iload hx hb dX13_chosenAt_118 (lv_at hl 1 rfl) ?_
              refine lv_goto (tgt := 125) hx hb dX13_chosenAt_120 (by decide +kernel) ?_
              exact W.iret hx hb hr (fun t ht hW => ⟨⟨_, (), rfl, ⟨(show z_2.toInt = -5 ∨ (0 ≤ z_2.toInt ∧ z_2.toInt < x1.toInt) from (Or.inr (by omega))), (show z_2 = pickW (lqW (q 0) (q 1) (q 2) (q 3) (q 4) (q 5) (q 6)) f8 f9 f10 f11 f17 (tabW f20 f21 f22) x1 x2 x3 from (ez_2.trans (pk_y (by omega) (by omega) (by omega) (by omega) (by rw [← ez_1, ← ez_2]; exact hmm9) (by rw [← ez_2, ← ez_1, hco9]; omega)).symm))⟩, by rw [ht]; exact hP.sub [0, 1, 2, 3, 4, 5, 6, 7, 8] rfl, hD.sub [0, 1, 2, 3, 4, 5, 6, 7, 8] (by decide +kernel) rfl⟩, hS.F ht⟩) hS.2.2 dX13_chosenAt_125
          · rw [fa_eq] at c_15
            try rw [ti_6] at c_15
            refine lv_iload hx hb dX13_chosenAt_105 (lv_at hl 0 rfl) ?_
            refine lv_if_le (tgt := 123) hx hb dX13_chosenAt_107 (by decide +kernel) (fun c_17 => ?_) (fun c_17 => ?_)
            · rw [fa_le] at c_17
              try rw [ti_0] at c_17
              refine lv_iload hx hb dX13_chosenAt_123 (lv_at hl 2 rfl) ?_
              exact W.iret hx hb hr (fun t ht hW => ⟨⟨_, (), rfl, ⟨(show z_1.toInt = -5 ∨ (0 ≤ z_1.toInt ∧ z_1.toInt < x1.toInt) from (Or.inr (by omega))), (show z_1 = pickW (lqW (q 0) (q 1) (q 2) (q 3) (q 4) (q 5) (q 6)) f8 f9 f10 f11 f17 (tabW f20 f21 f22) x1 x2 x3 from (ez_1.trans (pk_n (by omega) (by omega) (by omega) (by omega) (by rw [← ez_1, ← ez_2]; exact hmm9) (by rw [← ez_2, ← ez_1, hco9]; omega)).symm))⟩, by rw [ht]; exact hP.sub [0, 1, 2, 3, 4, 5, 6, 7, 8] rfl, hD.sub [0, 1, 2, 3, 4, 5, 6, 7, 8] (by decide +kernel) rfl⟩, hS.F ht⟩) hS.2.2 dX13_chosenAt_125
            · rw [fa_le] at c_17
              try rw [ti_0] at c_17
              refine lv_goto (tgt := 118) hx hb dX13_chosenAt_110 (by decide +kernel) ?_
              refine lv_iload hx hb dX13_chosenAt_118 (lv_at hl 1 rfl) ?_
              refine lv_goto (tgt := 125) hx hb dX13_chosenAt_120 (by decide +kernel) ?_
              exact W.iret hx hb hr (fun t ht hW => ⟨⟨_, (), rfl, ⟨(show z_2.toInt = -5 ∨ (0 ≤ z_2.toInt ∧ z_2.toInt < x1.toInt) from (Or.inr (by omega))), (show z_2 = pickW (lqW (q 0) (q 1) (q 2) (q 3) (q 4) (q 5) (q 6)) f8 f9 f10 f11 f17 (tabW f20 f21 f22) x1 x2 x3 from (ez_2.trans (pk_y (by omega) (by omega) (by omega) (by omega) (by rw [← ez_1, ← ez_2]; exact hmm9) (by rw [← ez_2, ← ez_1, hco9]; omega)).symm))⟩, by rw [ht]; exact hP.sub [0, 1, 2, 3, 4, 5, 6, 7, 8] rfl, hD.sub [0, 1, 2, 3, 4, 5, 6, 7, 8] (by decide +kernel) rfl⟩, hS.F ht⟩) hS.2.2 dX13_chosenAt_125
        · rw [fa_eq] at c_12
          try rw [ti_0] at c_12
          refine lv_bipush (v := (-5)) hx hb dX13_chosenAt_79 (by decide +kernel) ?_
          exact W.iret hx hb hr (fun t ht hW => ⟨⟨_, (), rfl, ⟨(show ((-5) : Int32).toInt = -5 ∨ (0 ≤ ((-5) : Int32).toInt ∧ ((-5) : Int32).toInt < x1.toInt) from (Or.inl (by decide +kernel))), (show ((-5) : Int32) = pickW (lqW (q 0) (q 1) (q 2) (q 3) (q 4) (q 5) (q 6)) f8 f9 f10 f11 f17 (tabW f20 f21 f22) x1 x2 x3 from ((pk_m (by omega) (by omega) (by omega) (by omega) (by rw [← ez_1, ← ez_2]; exact Or.inr (tab_m0 (by rw [← hr_11.2]; omega)))).symm))⟩, by rw [ht]; exact hP.sub [0, 1, 2, 3, 4, 5, 6, 7, 8] rfl, hD.sub [0, 1, 2, 3, 4, 5, 6, 7, 8] (by decide +kernel) rfl⟩, hS.F ht⟩) hS.2.2 dX13_chosenAt_81
    · rw [fa_le] at c_8
      refine lv_iload_n hx hb dX13_chosenAt_38 rfl (lv_at hl 4 rfl) ?_
      refine lv_aload_n hx hb dX13_chosenAt_39 rfl (lv_at hl 2 rfl) ?_
      refine va_get (D := D) (ci := 10) (v := .ref (a 17)) (C := RX13) (T := TX13) (N := 45) hx hb hts in_X13_chosenAt_X13 hown hE.1 hP 0 rfl rfl 17 (by decide +kernel) (hts (.fieldLink RX13 47 "ClauseBookModel" "end" "[I") (List.mem_of_getElem? (i := 3) rfl)) (fun _ h9 => h9) rfl dX13_chosenAt_40 ?_
      refine lv_iload hx hb dX13_chosenAt_43 (lv_at hl 1 rfl) ?_
      refine va_iald hx hb hE.1 hP 5 0 rfl rfl (by rw [vp_in_iff]; first | omega | (subst_vars; omega)) dX13_chosenAt_45 ?_
      refine lv_topi (fun z_18 ez_18 => ?_)
      have hzz_18 : z_18.toInt = (f17 ((f10 (x1.toNatClampNeg)).toNatClampNeg)).toInt := by rw [ez_18, ez_1]
      refine lv_icmp_le (tgt := 54) hx hb dX13_chosenAt_46 (by decide +kernel) (fun c_19 => ?_) (fun c_19 => ?_)
      · rw [fa_le] at c_19
        refine lv_iload hx hb dX13_chosenAt_54 (lv_at hl 1 rfl) ?_
        exact W.iret hx hb hr (fun t ht hW => ⟨⟨_, (), rfl, ⟨(show z_1.toInt = -5 ∨ (0 ≤ z_1.toInt ∧ z_1.toInt < x1.toInt) from (Or.inr (by omega))), (show z_1 = pickW (lqW (q 0) (q 1) (q 2) (q 3) (q 4) (q 5) (q 6)) f8 f9 f10 f11 f17 (tabW f20 f21 f22) x1 x2 x3 from (ez_1.trans (pk_d (by omega) (by omega) (by omega) (Or.inr (by omega))).symm))⟩, by rw [ht]; exact hP.sub [0, 1, 2, 3, 4, 5, 6, 7, 8] rfl, hD.sub [0, 1, 2, 3, 4, 5, 6, 7, 8] (by decide +kernel) rfl⟩, hS.F ht⟩) hS.2.2 dX13_chosenAt_56
      · rw [fa_le] at c_19
        refine lv_iload hx hb dX13_chosenAt_49 (lv_at hl 0 rfl) ?_
        refine lv_goto (tgt := 56) hx hb dX13_chosenAt_51 (by decide +kernel) ?_
        exact W.iret hx hb hr (fun t ht hW => ⟨⟨_, (), rfl, ⟨(show z_2.toInt = -5 ∨ (0 ≤ z_2.toInt ∧ z_2.toInt < x1.toInt) from (Or.inr (by omega))), (show z_2 = pickW (lqW (q 0) (q 1) (q 2) (q 3) (q 4) (q 5) (q 6)) f8 f9 f10 f11 f17 (tabW f20 f21 f22) x1 x2 x3 from (ez_2.trans (pk_c (by omega) (by omega) (by omega)).symm))⟩, by rw [ht]; exact hP.sub [0, 1, 2, 3, 4, 5, 6, 7, 8] rfl, hD.sub [0, 1, 2, 3, 4, 5, 6, 7, 8] (by decide +kernel) rfl⟩, hS.F ht⟩) hS.2.2 dX13_chosenAt_56
theorem dX13_chosen_0 : decode cX13_chosen 0 = .ok (.aload_n 0, 1) := by decide +kernel
theorem dX13_chosen_1 : decode cX13_chosen 1 = .ok (.iload_n 1, 1) := by decide +kernel
theorem dX13_chosen_10 : decode cX13_chosen 10 = .ok (.invokestatic 188, 3) := by decide +kernel
theorem dX13_chosen_13 : decode cX13_chosen 13 = .ok (.ifCond .eq 25, 3) := by decide +kernel
theorem dX13_chosen_16 : decode cX13_chosen 16 = .ok (.aload_n 0, 1) := by decide +kernel
theorem dX13_chosen_17 : decode cX13_chosen 17 = .ok (.getfield 28, 3) := by decide +kernel
theorem dX13_chosen_2 : decode cX13_chosen 2 = .ok (.invokevirtual 233, 3) := by decide +kernel
theorem dX13_chosen_20 : decode cX13_chosen 20 = .ok (.iload_n 1, 1) := by decide +kernel
theorem dX13_chosen_21 : decode cX13_chosen 21 = .ok (.iaload, 1) := by decide +kernel
theorem dX13_chosen_22 : decode cX13_chosen 22 = .ok (.bipush 6, 2) := by decide +kernel
theorem dX13_chosen_24 : decode cX13_chosen 24 = .ok (.if_icmp .eq 17, 3) := by decide +kernel
theorem dX13_chosen_27 : decode cX13_chosen 27 = .ok (.aload_n 0, 1) := by decide +kernel
theorem dX13_chosen_28 : decode cX13_chosen 28 = .ok (.getfield 28, 3) := by decide +kernel
theorem dX13_chosen_31 : decode cX13_chosen 31 = .ok (.iload_n 1, 1) := by decide +kernel
theorem dX13_chosen_32 : decode cX13_chosen 32 = .ok (.iaload, 1) := by decide +kernel
theorem dX13_chosen_33 : decode cX13_chosen 33 = .ok (.bipush 7, 2) := by decide +kernel
theorem dX13_chosen_35 : decode cX13_chosen 35 = .ok (.if_icmp .eq 6, 3) := by decide +kernel
theorem dX13_chosen_38 : decode cX13_chosen 38 = .ok (.bipush (-2), 2) := by decide +kernel
theorem dX13_chosen_40 : decode cX13_chosen 40 = .ok (.ireturn, 1) := by decide +kernel
theorem dX13_chosen_41 : decode cX13_chosen 41 = .ok (.aload_n 0, 1) := by decide +kernel
theorem dX13_chosen_42 : decode cX13_chosen 42 = .ok (.iload_n 1, 1) := by decide +kernel
theorem dX13_chosen_43 : decode cX13_chosen 43 = .ok (.invokevirtual 274, 3) := by decide +kernel
theorem dX13_chosen_46 : decode cX13_chosen 46 = .ok (.iload_n 2, 1) := by decide +kernel
theorem dX13_chosen_47 : decode cX13_chosen 47 = .ok (.aload_n 0, 1) := by decide +kernel
theorem dX13_chosen_48 : decode cX13_chosen 48 = .ok (.getfield 47, 3) := by decide +kernel
theorem dX13_chosen_5 : decode cX13_chosen 5 = .ok (.ifCond .eq 33, 3) := by decide +kernel
theorem dX13_chosen_51 : decode cX13_chosen 51 = .ok (.iload_n 1, 1) := by decide +kernel
theorem dX13_chosen_52 : decode cX13_chosen 52 = .ok (.iaload, 1) := by decide +kernel
theorem dX13_chosen_53 : decode cX13_chosen 53 = .ok (.if_icmp .le 8, 3) := by decide +kernel
theorem dX13_chosen_56 : decode cX13_chosen 56 = .ok (.bipush (-3), 2) := by decide +kernel
theorem dX13_chosen_58 : decode cX13_chosen 58 = .ok (.goto 10, 3) := by decide +kernel
theorem dX13_chosen_61 : decode cX13_chosen 61 = .ok (.aload_n 0, 1) := by decide +kernel
theorem dX13_chosen_62 : decode cX13_chosen 62 = .ok (.iload_n 1, 1) := by decide +kernel
theorem dX13_chosen_63 : decode cX13_chosen 63 = .ok (.iload_n 2, 1) := by decide +kernel
theorem dX13_chosen_64 : decode cX13_chosen 64 = .ok (.iload_n 3, 1) := by decide +kernel
theorem dX13_chosen_65 : decode cX13_chosen 65 = .ok (.invokevirtual 306, 3) := by decide +kernel
theorem dX13_chosen_68 : decode cX13_chosen 68 = .ok (.ireturn, 1) := by decide +kernel
theorem dX13_chosen_8 : decode cX13_chosen 8 = .ok (.iload_n 2, 1) := by decide +kernel
theorem dX13_chosen_9 : decode cX13_chosen 9 = .ok (.iload_n 3, 1) := by decide +kernel
set_option maxRecDepth 40000 in
theorem ggX13_chosen_X13_chosenAt_0 : GoodIn wsX13_chosen [.code yX13_chosenAt cX13_chosenAt 7 (some .int)] := goodIn_r _ [118] rfl (by decide +kernel)
set_option maxRecDepth 40000 in
theorem ggX13_chosen_X13_chosenAt_1 : GoodIn wsX13_chosen wsX13_chosenAt_r1 := goodIn_r _ [30, 31, 2, 1, 119, 120, 121, 6, 122, 21, 61, 62, 63, 123, 124, 125, 126, 22, 24, 96, 97, 98, 99, 100] rfl (by decide +kernel)
set_option maxRecDepth 40000 in
theorem ggX13_chosen_X13_chosenAt_2 : GoodIn wsX13_chosen wsX13_chosenAt_r2 := goodIn_r _ [101, 102] rfl (by decide +kernel)
set_option maxRecDepth 40000 in
theorem ggX13_chosen_X13_chosenAt_3 : GoodIn wsX13_chosen wsX130 := goodIn_r _ [127, 128, 129, 130, 131, 132, 133, 134, 135, 136, 137, 138, 139, 140, 141, 142, 143, 144, 145, 146, 147, 148, 149, 150, 151, 152, 153, 154, 155, 156, 157, 158, 159, 160, 161, 162, 163, 164, 165, 166, 167, 168, 169, 170, 171] rfl (by decide +kernel)
set_option maxRecDepth 40000 in
theorem ggX13_chosen_X13_chosenAt : GoodIn wsX13_chosen wsX13_chosenAt := (goodIn_app ggX13_chosen_X13_chosenAt_0 (goodIn_app (goodIn_app ggX13_chosen_X13_chosenAt_1 ggX13_chosen_X13_chosenAt_2) ggX13_chosen_X13_chosenAt_3))
set_option maxRecDepth 20000 in
theorem ggX13_chosen_X13_isClause : GoodIn wsX13_chosen wsX13_isClause := goodIn_r _ [7, 8, 9, 10, 6, 11, 127, 128, 129, 130, 131, 132, 133, 134, 135, 136, 137, 138, 139, 140, 141, 142, 143, 144, 145, 146, 147, 148, 149, 150, 151, 152, 153, 154, 155, 156, 157, 158, 159, 160, 161, 162, 163, 164, 165, 166, 167, 168, 169, 170, 171] rfl (by decide +kernel)
set_option maxRecDepth 20000 in
theorem ggX13_chosen_X13_isSpot : GoodIn wsX13_chosen wsX13_isSpot := goodIn_r _ [14, 15, 9, 10, 6, 11] rfl (by decide +kernel)
set_option maxRecDepth 40000 in
theorem ggX13_chosen_X13_laysWorths_0 : GoodIn wsX13_chosen [.code yX13_laysWorths cX13_laysWorths 6 none] := goodIn_r _ [19] rfl (by decide +kernel)
set_option maxRecDepth 40000 in
theorem ggX13_chosen_X13_laysWorths_1 : GoodIn wsX13_chosen wsX13_laysWorths_r1 := goodIn_r _ [20, 2, 21, 22, 23, 24, 25, 26, 27, 28, 6, 29, 8, 1, 30, 31, 32, 33, 34, 35, 36, 37, 38, 39] rfl (by decide +kernel)
set_option maxRecDepth 40000 in
theorem ggX13_chosen_X13_laysWorths_2 : GoodIn wsX13_chosen wsX13_laysWorths_r2 := goodIn_r _ [40, 41, 42, 43, 44, 45, 46, 47, 48, 49, 50, 51, 52, 53, 54, 55, 56, 57, 58, 59, 60, 61, 62, 63] rfl (by decide +kernel)
set_option maxRecDepth 40000 in
theorem ggX13_chosen_X13_laysWorths_3 : GoodIn wsX13_chosen wsX13_laysWorths_r3 := goodIn_r _ [64, 65, 66, 67, 68, 69, 70, 71, 72, 73, 74, 75, 76, 77, 78, 79, 80, 81, 82, 83, 84, 85, 86, 87] rfl (by decide +kernel)
set_option maxRecDepth 40000 in
theorem ggX13_chosen_X13_laysWorths_4 : GoodIn wsX13_chosen wsX13_laysWorths_r4 := goodIn_r _ [88, 89, 90, 91, 92, 93, 94, 95, 96, 97, 98, 99, 100, 101, 102, 103, 104, 105, 106, 107, 108, 109, 110, 111] rfl (by decide +kernel)
set_option maxRecDepth 40000 in
theorem ggX13_chosen_X13_laysWorths_5 : GoodIn wsX13_chosen wsX13_laysWorths_r5 := goodIn_r _ [112, 113, 114] rfl (by decide +kernel)
set_option maxRecDepth 40000 in
theorem ggX13_chosen_X13_laysWorths_6 : GoodIn wsX13_chosen wsX130 := goodIn_r _ [127, 128, 129, 130, 131, 132, 133, 134, 135, 136, 137, 138, 139, 140, 141, 142, 143, 144, 145, 146, 147, 148, 149, 150, 151, 152, 153, 154, 155, 156, 157, 158, 159, 160, 161, 162, 163, 164, 165, 166, 167, 168, 169, 170, 171] rfl (by decide +kernel)
set_option maxRecDepth 40000 in
theorem ggX13_chosen_X13_laysWorths : GoodIn wsX13_chosen wsX13_laysWorths := (goodIn_app ggX13_chosen_X13_laysWorths_0 (goodIn_app (goodIn_app ggX13_chosen_X13_laysWorths_1 (goodIn_app ggX13_chosen_X13_laysWorths_2 (goodIn_app ggX13_chosen_X13_laysWorths_3 (goodIn_app ggX13_chosen_X13_laysWorths_4 ggX13_chosen_X13_laysWorths_5)))) ggX13_chosen_X13_laysWorths_6))
set_option maxRecDepth 20000 in
theorem gX13_chosen_X13_chosenAt : GoodIn wsX13_chosen (wsV RX13 306 RX13 yX13_chosenAt wsX13_chosenAt) := goodIn_app (goodIn_r _ [115, 116, 117, 6] rfl (by decide +kernel)) ggX13_chosen_X13_chosenAt
set_option maxRecDepth 20000 in
theorem gX13_chosen_X13_isClause : GoodIn wsX13_chosen (wsV RX13 233 RX13 yX13_isClause wsX13_isClause) := goodIn_app (goodIn_r _ [3, 4, 5, 6] rfl (by decide +kernel)) ggX13_chosen_X13_isClause
set_option maxRecDepth 20000 in
theorem gX13_chosen_X13_isSpot : GoodIn wsX13_chosen (va_wsS RX13 188 yX13_isSpot wsX13_isSpot) := goodIn_app (goodIn_of _ (by decide +kernel)) ggX13_chosen_X13_isSpot
set_option maxRecDepth 20000 in
theorem gX13_chosen_X13_laysWorths : GoodIn wsX13_chosen (wsV RX13 274 RX13 yX13_laysWorths wsX13_laysWorths) := goodIn_app (goodIn_r _ [16, 17, 18, 6] rfl (by decide +kernel)) ggX13_chosen_X13_laysWorths
theorem hv_X13_chosenAt : yX13_chosenAt.cls = RX13 ∧ yX13_chosenAt.cls ≠ "java/lang/invoke/MethodHandle" ∧ yX13_chosenAt.cls ≠ "java/lang/invoke/VarHandle" ∧ (parseMethodDescriptor yX13_chosenAt.desc).map (fun d => d.parameters.length) = some 3 := by decide +kernel
set_option maxRecDepth 20000 in
theorem in_X13_chosen_X13 : ∀ w ∈ wsX130, w ∈ wsX13_chosen := sub_r [127, 128, 129, 130, 131, 132, 133, 134, 135, 136, 137, 138, 139, 140, 141, 142, 143, 144, 145, 146, 147, 148, 149, 150, 151, 152, 153, 154, 155, 156, 157, 158, 159, 160, 161, 162, 163, 164, 165, 166, 167, 168, 169, 170, 171] rfl
set_option maxHeartbeats 4000000 in
set_option maxRecDepth 100000 in
theorem c_X13_chosen (l : Launch) (D : va_G) (T : Nat → ClassId) (sz : Nat) (h0 : Nat) (q : Nat → Int32) (v : Int64) (w : Int64) (a : Nat → Nat) (f8 : Nat → Int32) (f9 : Nat → Int32) (f10 : Nat → Int32) (f11 : Nat → Int32) (f17 : Nat → Int32) (f18 : Nat → Int32) (f19 : Nat → Int32) (f20 : Nat → Int64) (f21 : Nat → Int64) (f22 : Nat → Int32) (x1 : Int32) (x2 : Int32) (x3 : Int32) (hB : isB (q 14)) (hm : 0 ≤ (q 7).toInt ∧ (q 7).toInt ≤ 24) (hokR : okR f8 f10 f11) (hZ : ∀ j : Nat, isB (f22 j)) (hL : (1 ≤ (q 4).toInt ∧ (q 4).toInt ≤ 9) ∧ 1 ≤ (q 6).toInt ∧ (q 6).toInt ≤ 9) : Met l yX13_chosen wsX13_chosen ({ frames := 134, cells := 0, slots := 0, locals := 5283 }) (pW [.ref h0, .int x1, .int x2, .int x3] D T [(h0, .inr (10, (Value.int (q 0) :: Value.int (q 1) :: Value.int (q 2) :: Value.int (q 3) :: Value.int (q 4) :: Value.int (q 5) :: Value.int (q 6) :: Value.int (q 7) :: Value.ref (a 8) :: Value.ref (a 9) :: Value.ref (a 10) :: Value.ref (a 11) :: Value.ref (a 12) :: Value.ref (a 13) :: Value.int (q 14) :: Value.long v :: Value.long w :: Value.ref (a 17) :: Value.ref (a 18) :: Value.ref (a 19) :: Value.ref (a 20) :: Value.ref (a 21) :: Value.ref (a 22) :: Value.ref (a 23) :: Value.int (q 24) :: Value.ref (a 25) :: Value.int (q 26) :: Value.ref (a 27) :: Value.int (q 28) :: Value.int (q 29) :: Value.int (q 30) :: Value.int (q 31) :: Value.int (q 32) :: Value.int (q 33) :: Value.ref (a 34) :: Value.ref (a 35) :: Value.ref (a 36) :: Value.ref (a 37) :: Value.ref (a 38) :: Value.ref (a 39) :: Value.ref (a 40) :: Value.int (q 41) :: Value.ref (a 42) :: Value.int (q 43) :: Value.int (q 44) :: []))), ((a 8), .inl (T 0, 24, .inl f8)), ((a 9), .inl (T 0, 24, .inl f9)), ((a 10), .inl (T 0, 24, .inl f10)), ((a 11), .inl (T 0, 24, .inl f11)), ((a 17), .inl (T 0, 24, .inl f17)), ((a 18), .inl (T 0, 24, .inl f18)), ((a 19), .inl (T 0, 24, .inl f19)), ((a 20), .inl (T 1, 672, .inr (.inl f20))), ((a 21), .inl (T 1, 672, .inr (.inl f21))), ((a 22), .inl (T 4, 672, .inl f22))] sz) (va_Qi (fun (r : Int32) (u : (Int32) × (Int64) × (Int64) × (Nat → Int32) × (Nat → Int32) × (Nat → Int32) × (Nat → Int64) × (Nat → Int64) × (Nat → Int32)) => (isB u.1) ∧ (∀ j : Nat, isB (u.2.2.2.2.2.2.2.2 j)) ∧ (atV (q 7) x1 x2 x3 ∧ ((f8 (x1.toNatClampNeg)).toNatClampNeg = 6 ∨ (f8 (x1.toNatClampNeg)).toNatClampNeg = 7) → ∀ j : Nat, (j : Int) < (q 7).toInt → mesP f8 f9 f10 f11 u.2.2.2.1 u.2.2.2.2.1 u.2.2.2.2.2.1 j) ∧ (chQ (lqW (q 0) (q 1) (q 2) (q 3) (q 4) (q 5) (q 6)) f8 f9 f10 f11 u.2.2.2.1 (VALW (lqW (q 0) (q 1) (q 2) (q 3) (q 4) (q 5) (q 6)) f8 f9 f10 f11 u.2.2.2.1) (q 7) x1 x2 x3 r)) (bW D (va_A [(h0, .inr (10, (Value.int (q 0) :: Value.int (q 1) :: Value.int (q 2) :: Value.int (q 3) :: Value.int (q 4) :: Value.int (q 5) :: Value.int (q 6) :: Value.int (q 7) :: Value.ref (a 8) :: Value.ref (a 9) :: Value.ref (a 10) :: Value.ref (a 11) :: Value.ref (a 12) :: Value.ref (a 13) :: Value.int (q 14) :: Value.long v :: Value.long w :: Value.ref (a 17) :: Value.ref (a 18) :: Value.ref (a 19) :: Value.ref (a 20) :: Value.ref (a 21) :: Value.ref (a 22) :: Value.ref (a 23) :: Value.int (q 24) :: Value.ref (a 25) :: Value.int (q 26) :: Value.ref (a 27) :: Value.int (q 28) :: Value.int (q 29) :: Value.int (q 30) :: Value.int (q 31) :: Value.int (q 32) :: Value.int (q 33) :: Value.ref (a 34) :: Value.ref (a 35) :: Value.ref (a 36) :: Value.ref (a 37) :: Value.ref (a 38) :: Value.ref (a 39) :: Value.ref (a 40) :: Value.int (q 41) :: Value.ref (a 42) :: Value.int (q 43) :: Value.int (q 44) :: []))), ((a 8), .inl (T 0, 24, .inl f8)), ((a 9), .inl (T 0, 24, .inl f9)), ((a 10), .inl (T 0, 24, .inl f10)), ((a 11), .inl (T 0, 24, .inl f11)), ((a 17), .inl (T 0, 24, .inl f17)), ((a 18), .inl (T 0, 24, .inl f18)), ((a 19), .inl (T 0, 24, .inl f19)), ((a 20), .inl (T 1, 672, .inr (.inl f20))), ((a 21), .inl (T 1, 672, .inr (.inl f21))), ((a 22), .inl (T 4, 672, .inl f22))] sz) (fun (u : (Int32) × (Int64) × (Int64) × (Nat → Int32) × (Nat → Int32) × (Nat → Int32) × (Nat → Int64) × (Nat → Int64) × (Nat → Int32)) => [(h0, .inr (10, (Value.int (q 0) :: Value.int (q 1) :: Value.int (q 2) :: Value.int (q 3) :: Value.int (q 4) :: Value.int (q 5) :: Value.int (q 6) :: Value.int (q 7) :: Value.ref (a 8) :: Value.ref (a 9) :: Value.ref (a 10) :: Value.ref (a 11) :: Value.ref (a 12) :: Value.ref (a 13) :: Value.int u.1 :: Value.long u.2.1 :: Value.long u.2.2.1 :: Value.ref (a 17) :: Value.ref (a 18) :: Value.ref (a 19) :: Value.ref (a 20) :: Value.ref (a 21) :: Value.ref (a 22) :: Value.ref (a 23) :: Value.int (q 24) :: Value.ref (a 25) :: Value.int (q 26) :: Value.ref (a 27) :: Value.int (q 28) :: Value.int (q 29) :: Value.int (q 30) :: Value.int (q 31) :: Value.int (q 32) :: Value.int (q 33) :: Value.ref (a 34) :: Value.ref (a 35) :: Value.ref (a 36) :: Value.ref (a 37) :: Value.ref (a 38) :: Value.ref (a 39) :: Value.ref (a 40) :: Value.int (q 41) :: Value.ref (a 42) :: Value.int (q 43) :: Value.int (q 44) :: []))), ((a 8), .inl (T 0, 24, .inl f8)), ((a 9), .inl (T 0, 24, .inl f9)), ((a 10), .inl (T 0, 24, .inl f10)), ((a 11), .inl (T 0, 24, .inl f11)), ((a 17), .inl (T 0, 24, .inl u.2.2.2.1)), ((a 18), .inl (T 0, 24, .inl u.2.2.2.2.1)), ((a 19), .inl (T 0, 24, .inl u.2.2.2.2.2.1)), ((a 20), .inl (T 1, 672, .inr (.inl u.2.2.2.2.2.2.1))), ((a 21), .inl (T 1, 672, .inr (.inl u.2.2.2.2.2.2.2.1))), ((a 22), .inl (T 4, 672, .inl u.2.2.2.2.2.2.2.2))])) (va_A [(h0, .inr (10, (Value.int (q 0) :: Value.int (q 1) :: Value.int (q 2) :: Value.int (q 3) :: Value.int (q 4) :: Value.int (q 5) :: Value.int (q 6) :: Value.int (q 7) :: Value.ref (a 8) :: Value.ref (a 9) :: Value.ref (a 10) :: Value.ref (a 11) :: Value.ref (a 12) :: Value.ref (a 13) :: Value.int (q 14) :: Value.long v :: Value.long w :: Value.ref (a 17) :: Value.ref (a 18) :: Value.ref (a 19) :: Value.ref (a 20) :: Value.ref (a 21) :: Value.ref (a 22) :: Value.ref (a 23) :: Value.int (q 24) :: Value.ref (a 25) :: Value.int (q 26) :: Value.ref (a 27) :: Value.int (q 28) :: Value.int (q 29) :: Value.int (q 30) :: Value.int (q 31) :: Value.int (q 32) :: Value.int (q 33) :: Value.ref (a 34) :: Value.ref (a 35) :: Value.ref (a 36) :: Value.ref (a 37) :: Value.ref (a 38) :: Value.ref (a 39) :: Value.ref (a 40) :: Value.int (q 41) :: Value.ref (a 42) :: Value.int (q 43) :: Value.int (q 44) :: []))), ((a 8), .inl (T 0, 24, .inl f8)), ((a 9), .inl (T 0, 24, .inl f9)), ((a 10), .inl (T 0, 24, .inl f10)), ((a 11), .inl (T 0, 24, .inl f11)), ((a 17), .inl (T 0, 24, .inl f17)), ((a 18), .inl (T 0, 24, .inl f18)), ((a 19), .inl (T 0, 24, .inl f19)), ((a 20), .inl (T 1, 672, .inr (.inl f20))), ((a 21), .inl (T 1, 672, .inr (.inl f21))), ((a 22), .inl (T 4, 672, .inl f22))] sz)) 0 0 (va_A [(h0, .inr (10, (Value.int (q 0) :: Value.int (q 1) :: Value.int (q 2) :: Value.int (q 3) :: Value.int (q 4) :: Value.int (q 5) :: Value.int (q 6) :: Value.int (q 7) :: Value.ref (a 8) :: Value.ref (a 9) :: Value.ref (a 10) :: Value.ref (a 11) :: Value.ref (a 12) :: Value.ref (a 13) :: Value.int (q 14) :: Value.long v :: Value.long w :: Value.ref (a 17) :: Value.ref (a 18) :: Value.ref (a 19) :: Value.ref (a 20) :: Value.ref (a 21) :: Value.ref (a 22) :: Value.ref (a 23) :: Value.int (q 24) :: Value.ref (a 25) :: Value.int (q 26) :: Value.ref (a 27) :: Value.int (q 28) :: Value.int (q 29) :: Value.int (q 30) :: Value.int (q 31) :: Value.int (q 32) :: Value.int (q 33) :: Value.ref (a 34) :: Value.ref (a 35) :: Value.ref (a 36) :: Value.ref (a 37) :: Value.ref (a 38) :: Value.ref (a 39) :: Value.ref (a 40) :: Value.int (q 41) :: Value.ref (a 42) :: Value.int (q 43) :: Value.int (q 44) :: []))), ((a 8), .inl (T 0, 24, .inl f8)), ((a 9), .inl (T 0, 24, .inl f9)), ((a 10), .inl (T 0, 24, .inl f10)), ((a 11), .inl (T 0, 24, .inl f11)), ((a 17), .inl (T 0, 24, .inl f17)), ((a 18), .inl (T 0, 24, .inl f18)), ((a 19), .inl (T 0, 24, .inl f19)), ((a 20), .inl (T 1, 672, .inr (.inl f20))), ((a 21), .inl (T 1, 672, .inr (.inl f21))), ((a 22), .inl (T 4, 672, .inl f22))] sz) := by
  refine Met.ofW (cc := cX13_chosen) (maxL := 4) (ret := (some .int)) (by decide +kernel) rfl ?_
  intro p e s m args below meth c s₁ B hml hv
  obtain ⟨rfl, hsz, hP, hE, hD0⟩ := hv
  have hx := B.exec
  have hb := B.bytes
  have hr := B.returns
  have hts := atoms_spec (ws := wsX13_chosen) B.pre
  have hown : s.vm.findClass RX13 = some m.cls := findClass_of_methodNamed B.named
  have hlocks := B.notSynchronized
  subst hsz
  have hD := hD0.self (sz := s.heap.size)
  generalize hAe : va_A [(h0, .inr (10, (Value.int (q 0) :: Value.int (q 1) :: Value.int (q 2) :: Value.int (q 3) :: Value.int (q 4) :: Value.int (q 5) :: Value.int (q 6) :: Value.int (q 7) :: Value.ref (a 8) :: Value.ref (a 9) :: Value.ref (a 10) :: Value.ref (a 11) :: Value.ref (a 12) :: Value.ref (a 13) :: Value.int (q 14) :: Value.long v :: Value.long w :: Value.ref (a 17) :: Value.ref (a 18) :: Value.ref (a 19) :: Value.ref (a 20) :: Value.ref (a 21) :: Value.ref (a 22) :: Value.ref (a 23) :: Value.int (q 24) :: Value.ref (a 25) :: Value.int (q 26) :: Value.ref (a 27) :: Value.int (q 28) :: Value.int (q 29) :: Value.int (q 30) :: Value.int (q 31) :: Value.int (q 32) :: Value.int (q 33) :: Value.ref (a 34) :: Value.ref (a 35) :: Value.ref (a 36) :: Value.ref (a 37) :: Value.ref (a 38) :: Value.ref (a 39) :: Value.ref (a 40) :: Value.int (q 41) :: Value.ref (a 42) :: Value.int (q 43) :: Value.int (q 44) :: []))), ((a 8), .inl (T 0, 24, .inl f8)), ((a 9), .inl (T 0, 24, .inl f9)), ((a 10), .inl (T 0, 24, .inl f10)), ((a 11), .inl (T 0, 24, .inl f11)), ((a 17), .inl (T 0, 24, .inl f17)), ((a 18), .inl (T 0, 24, .inl f18)), ((a 19), .inl (T 0, 24, .inl f19)), ((a 20), .inl (T 1, 672, .inr (.inl f20))), ((a 21), .inl (T 1, 672, .inr (.inl f21))), ((a 22), .inl (T 4, 672, .inl f22))] s.heap.size = A at hD ⊢
  have hA : ∀ q : Nat, s.heap.size ≤ q → A q := fun q h => by rw [← hAe]; exact Or.inr h
  have hS : va_S A s.heap s.heap [] := va_S.rf
  have hP : va_P D vwCl [(h0, .inr (10, (Value.int (q 0) :: Value.int (q 1) :: Value.int (q 2) :: Value.int (q 3) :: Value.int (q 4) :: Value.int (q 5) :: Value.int (q 6) :: Value.int (q 7) :: Value.ref (a 8) :: Value.ref (a 9) :: Value.ref (a 10) :: Value.ref (a 11) :: Value.ref (a 12) :: Value.ref (a 13) :: Value.int (q 14) :: Value.long v :: Value.long w :: Value.ref (a 17) :: Value.ref (a 18) :: Value.ref (a 19) :: Value.ref (a 20) :: Value.ref (a 21) :: Value.ref (a 22) :: Value.ref (a 23) :: Value.int (q 24) :: Value.ref (a 25) :: Value.int (q 26) :: Value.ref (a 27) :: Value.int (q 28) :: Value.int (q 29) :: Value.int (q 30) :: Value.int (q 31) :: Value.int (q 32) :: Value.int (q 33) :: Value.ref (a 34) :: Value.ref (a 35) :: Value.ref (a 36) :: Value.ref (a 37) :: Value.ref (a 38) :: Value.ref (a 39) :: Value.ref (a 40) :: Value.int (q 41) :: Value.ref (a 42) :: Value.int (q 43) :: Value.int (q 44) :: []))), ((a 8), .inl (T 0, 24, .inl f8)), ((a 9), .inl (T 0, 24, .inl f9)), ((a 10), .inl (T 0, 24, .inl f10)), ((a 11), .inl (T 0, 24, .inl f11)), ((a 17), .inl (T 0, 24, .inl f17)), ((a 18), .inl (T 0, 24, .inl f18)), ((a 19), .inl (T 0, 24, .inl f19)), ((a 20), .inl (T 1, 672, .inr (.inl f20))), ((a 21), .inl (T 1, 672, .inr (.inl f21))), ((a 22), .inl (T 4, 672, .inl f22))] s.heap := hP
  have hl := lv_entry ([.ref h0, .int x1, .int x2, .int x3]) (n := 4) (Nat.le_of_ble_eq_true rfl)
  rw [lg_entry_eq]
  generalize (lg_sl ([.ref h0, .int x1, .int x2, .int x3]) ++ List.replicate (4 - (lg_sl ([.ref h0, .int x1, .int x2, .int x3])).length) Slot.unset).toArray = ls at hl ⊢
  have hl : lv_has ls 4 [(0, .ref h0), (1, .int x1), (2, .int x2), (3, .int x3)] := hl
  clear hD0
  refine lv_aload_n hx hb dX13_chosen_0 rfl (lv_at hl 0 rfl) ?_
  refine lv_iload_n hx hb dX13_chosen_1 rfl (lv_at hl 1 rfl) ?_
  refine vp_callSi (W.runV (As := [.int x1]) (rest := []) ⟨hx, hb, hml, hown, hts⟩ (c_X13_isClause l D T h0 [.int (q 0), .int (q 1), .int (q 2), .int (q 3), .int (q 4), .int (q 5), .int (q 6), .int (q 7), .ref (a 8), .ref (a 9), .ref (a 10), .ref (a 11), .ref (a 12), .ref (a 13), .int (q 14), .long v, .long w, .ref (a 17), .ref (a 18), .ref (a 19), .ref (a 20), .ref (a 21), .ref (a 22), .ref (a 23), .int (q 24), .ref (a 25), .int (q 26), .ref (a 27), .int (q 28), .int (q 29), .int (q 30), .int (q 31), .int (q 32), .int (q 33), .ref (a 34), .ref (a 35), .ref (a 36), .ref (a 37), .ref (a 38), .ref (a 39), .ref (a 40), .int (q 41), .ref (a 42), .int (q 43), .int (q 44)] x1 (q 7) rfl (by omega)) (cwV 1 hts gX13_chosen_X13_isClause rfl rfl rfl hv_X13_isClause ⟨Nat.le_of_ble_eq_true rfl, Nat.le_of_ble_eq_true rfl⟩) (pR_V (q := (RX13, TX13, 45)) (ci := 10) (q0 := 0) hP hE rfl rfl [0] rfl) rfl rfl hl.1 rfl (lv_room (Nat.le_of_ble_eq_true rfl)) dX13_chosen_2 ⟨Nat.le_of_ble_eq_true rfl, Nat.le_of_ble_eq_true rfl⟩) (fun r_1 hr_1 => ?_)
  rcases bool_post hr_1 with ⟨c_2, rfl⟩ | ⟨c_2, rfl⟩
  · refine lv_if_eq (tgt := 38) hx hb dX13_chosen_5 (by decide +kernel) (fun c9 => absurd c9 (by decide +kernel)) (fun _ => ?_)
    refine lv_iload_n hx hb dX13_chosen_8 rfl (lv_at hl 2 rfl) ?_
    refine lv_iload_n hx hb dX13_chosen_9 rfl (lv_at hl 3 rfl) ?_
    refine vp_callSi (W.runS (As := [.int x2, .int x3]) (rest := []) ⟨hx, hb, hml, hown, hts⟩ (c_X13_isSpot l D T x2 x3) (va_cwS 2 hts gX13_chosen_X13_isSpot rfl rfl rfl hs_X13_isSpot ⟨Nat.le_of_ble_eq_true rfl, Nat.le_of_ble_eq_true rfl⟩) (pR_S hP hE [] rfl) rfl rfl hl.1 rfl (lv_room (Nat.le_of_ble_eq_true rfl)) dX13_chosen_10 ⟨Nat.le_of_ble_eq_true rfl, Nat.le_of_ble_eq_true rfl⟩) (fun r_3 hr_3 => ?_)
    rcases bool_post hr_3 with ⟨c_4, rfl⟩ | ⟨c_4, rfl⟩
    · refine lv_if_eq (tgt := 38) hx hb dX13_chosen_13 (by decide +kernel) (fun c9 => absurd c9 (by decide +kernel)) (fun _ => ?_)
      refine lv_aload_n hx hb dX13_chosen_16 rfl (lv_at hl 0 rfl) ?_
      refine va_get (D := D) (ci := 10) (v := .ref (a 8)) (C := RX13) (T := TX13) (N := 45) hx hb hts in_X13_chosen_X13 hown hE.1 hP 0 rfl rfl 8 (by decide +kernel) (hts (.fieldLink RX13 28 "ClauseBookModel" "kind" "[I") (List.mem_of_getElem? (i := 1) rfl)) (fun _ h9 => h9) rfl dX13_chosen_17 ?_
      refine lv_iload_n hx hb dX13_chosen_20 rfl (lv_at hl 1 rfl) ?_
      refine va_iald hx hb hE.1 hP 1 0 rfl rfl (by rw [vp_in_iff]; first | omega | (subst_vars; omega)) dX13_chosen_21 ?_
      refine lv_topi (fun z_5 ez_5 => ?_)
      have htz_5 : z_5.toInt = (f8 (x1.toNatClampNeg)).toInt := by rw [ez_5]
      have hJ := (in24 (x := x1) (by omega))
      have tk9 := tn (x := f8 (x1.toNatClampNeg)) (hokR _ hJ.1).1.1
      refine lv_bipush (v := 6) hx hb dX13_chosen_22 (by decide +kernel) ?_
      refine lv_icmp_eq (tgt := 41) hx hb dX13_chosen_24 (by decide +kernel) (fun c_6 => ?_) (fun c_6 => ?_)
      · rw [fa_eq] at c_6
        try rw [ti_6] at c_6
        refine lv_aload_n hx hb dX13_chosen_41 rfl (lv_at hl 0 rfl) ?_
        refine lv_iload_n hx hb dX13_chosen_42 rfl (lv_at hl 1 rfl) ?_
        have hn9 := nm_choice (z := f8 (x1.toNatClampNeg)) (by omega)
        have hc8 := (hokR _ hJ.1).2.1 (by omega)
        have hd8 := (hokR _ hJ.1).2.2 (by omega)
        have hFc := va_free (wc := [(h0, .inr (10, (Value.int (q 0) :: Value.int (q 1) :: Value.int (q 2) :: Value.int (q 3) :: Value.int (q 4) :: Value.int (q 5) :: Value.int (q 6) :: Value.int (q 7) :: Value.ref (a 8) :: Value.ref (a 9) :: Value.ref (a 10) :: Value.ref (a 11) :: Value.ref (a 12) :: Value.ref (a 13) :: Value.int (q 14) :: Value.long v :: Value.long w :: Value.ref (a 17) :: Value.ref (a 18) :: Value.ref (a 19) :: Value.ref (a 20) :: Value.ref (a 21) :: Value.ref (a 22) :: Value.ref (a 23) :: Value.int (q 24) :: Value.ref (a 25) :: Value.int (q 26) :: Value.ref (a 27) :: Value.int (q 28) :: Value.int (q 29) :: Value.int (q 30) :: Value.int (q 31) :: Value.int (q 32) :: Value.int (q 33) :: Value.ref (a 34) :: Value.ref (a 35) :: Value.ref (a 36) :: Value.ref (a 37) :: Value.ref (a 38) :: Value.ref (a 39) :: Value.ref (a 40) :: Value.int (q 41) :: Value.ref (a 42) :: Value.int (q 43) :: Value.int (q 44) :: []))), ((a 8), .inl (T 0, 24, .inl f8)), ((a 9), .inl (T 0, 24, .inl f9)), ((a 10), .inl (T 0, 24, .inl f10)), ((a 11), .inl (T 0, 24, .inl f11)), ((a 17), .inl (T 0, 24, .inl f17)), ((a 18), .inl (T 0, 24, .inl f18)), ((a 19), .inl (T 0, 24, .inl f19)), ((a 20), .inl (T 1, 672, .inr (.inl f20))), ((a 21), .inl (T 1, 672, .inr (.inl f21))), ((a 22), .inl (T 4, 672, .inl f22))]) hD hS hA [0, 1, 2, 3, 4, 5, 6, 7, 8, 9, 10] rfl
        refine va_callv (va_runV (As := [.int x1]) (rest := []) ⟨hx, hb, hml, hown, hts⟩ (c_X13_laysWorths l D T _ h0 q v w a f8 f9 f10 f11 f17 f18 f19 f20 f21 f22 x1 (show 0 ≤ (q 7).toInt ∧ (q 7).toInt ≤ 24 from (by omega)) (show okR f8 f10 f11 from hokR) (show ∀ j : Nat, isB (f22 j) from hZ) (show (1 ≤ (q 4).toInt ∧ (q 4).toInt ≤ 9) ∧ 1 ≤ (q 6).toInt ∧ (q 6).toInt ≤ 9 from (by omega)) (show -1 ≤ x1.toInt ∧ x1.toInt < (q 7).toInt from (by omega))) (cwV 1 hts gX13_chosen_X13_laysWorths rfl rfl rfl hv_X13_laysWorths ⟨Nat.le_of_ble_eq_true rfl, Nat.le_of_ble_eq_true rfl⟩) (pW_V (q := (RX13, TX13, 45)) (ci := 10) (q0 := 0) hP hE hD rfl rfl [0, 1, 2, 3, 4, 5, 6, 7, 8, 9, 10] (by decide +kernel) rfl rfl) rfl rfl hl.1 rfl (lv_room (Nat.le_of_ble_eq_true rfl)) dX13_chosen_43 ⟨Nat.le_of_ble_eq_true rfl, Nat.le_of_ble_eq_true rfl⟩) hS (fun q _ h => hFc q h) hFc (fun u_8 t H1 locs ht hvm hr_7 hB hz1 hk1 hS => ?_)
        obtain ⟨l_9, l_10, f_11, f_12, f_13, f_14, f_15, f_16⟩ := u_8
        obtain ⟨hi0_r_7, hi1_r_7, hi2_r_7, hi3_r_7, hi4_r_7⟩ := hr_7
        have hZ : ∀ j : Nat, isB (f_16 j) := hi0_r_7
        have hEE : okE f8 f10 f_11 (q 7).toInt := hi1_r_7
        have hW1 : ∀ j : Nat, (j : Int) < 28 * (x1.toInt + 1) → 1 ≤ (f_15 j).toInt := hi2_r_7
        have hTV : ∀ y t s : Int32, spK t s → 0 ≤ y.toInt → y.toInt ≤ x1.toInt → tabW f_14 f_15 f_16 y t s = VALW (lqW (q 0) (q 1) (q 2) (q 3) (q 4) (q 5) (q 6)) f8 f9 f10 f11 f_11 y t s := hi3_r_7
        have hMEr : ∀ j : Nat, (j : Int) < (q 7).toInt → mesP f8 f9 f10 f11 f_11 f_12 f_13 j := hi4_r_7
        obtain ⟨hP1, hD1⟩ := hB
        rw [ht] at hP1
        obtain ⟨hP, hD⟩ := va_repl [(h0, .inr (10, (Value.int (q 0) :: Value.int (q 1) :: Value.int (q 2) :: Value.int (q 3) :: Value.int (q 4) :: Value.int (q 5) :: Value.int (q 6) :: Value.int (q 7) :: Value.ref (a 8) :: Value.ref (a 9) :: Value.ref (a 10) :: Value.ref (a 11) :: Value.ref (a 12) :: Value.ref (a 13) :: Value.int 0 :: Value.long l_9 :: Value.long l_10 :: Value.ref (a 17) :: Value.ref (a 18) :: Value.ref (a 19) :: Value.ref (a 20) :: Value.ref (a 21) :: Value.ref (a 22) :: Value.ref (a 23) :: Value.int (q 24) :: Value.ref (a 25) :: Value.int (q 26) :: Value.ref (a 27) :: Value.int (q 28) :: Value.int (q 29) :: Value.int (q 30) :: Value.int (q 31) :: Value.int (q 32) :: Value.int (q 33) :: Value.ref (a 34) :: Value.ref (a 35) :: Value.ref (a 36) :: Value.ref (a 37) :: Value.ref (a 38) :: Value.ref (a 39) :: Value.ref (a 40) :: Value.int (q 41) :: Value.ref (a 42) :: Value.int (q 43) :: Value.int (q 44) :: []))), ((a 8), .inl (T 0, 24, .inl f8)), ((a 9), .inl (T 0, 24, .inl f9)), ((a 10), .inl (T 0, 24, .inl f10)), ((a 11), .inl (T 0, 24, .inl f11)), ((a 17), .inl (T 0, 24, .inl f_11)), ((a 18), .inl (T 0, 24, .inl f_12)), ((a 19), .inl (T 0, 24, .inl f_13)), ((a 20), .inl (T 1, 672, .inr (.inl f_14))), ((a 21), .inl (T 1, 672, .inr (.inl f_15))), ((a 22), .inl (T 4, 672, .inl f_16))] hP hD [0, 1, 2, 3, 4, 5, 6, 7, 8, 9, 10] [0, 1, 2, 3, 4, 5, 6, 7, 8, 9, 10] rfl (by decide +kernel) rfl rfl rfl hk1 hP1
        clear hP1 hD1 hFc
        generalize H1 = H at hP hS ⊢
        refine lv_iload_n hx hb dX13_chosen_46 rfl (lv_at hl 2 rfl) ?_
        refine lv_aload_n hx hb dX13_chosen_47 rfl (lv_at hl 0 rfl) ?_
        refine va_get (D := D) (ci := 10) (v := .ref (a 17)) (C := RX13) (T := TX13) (N := 45) hx hb hts in_X13_chosen_X13 hown hE.1 hP 0 rfl rfl 17 (by decide +kernel) (hts (.fieldLink RX13 47 "ClauseBookModel" "end" "[I") (List.mem_of_getElem? (i := 2) rfl)) (fun _ h9 => h9) rfl dX13_chosen_48 ?_
        refine lv_iload_n hx hb dX13_chosen_51 rfl (lv_at hl 1 rfl) ?_
        refine va_iald hx hb hE.1 hP 5 0 rfl rfl (by rw [vp_in_iff]; first | omega | (subst_vars; omega)) dX13_chosen_52 ?_
        refine lv_topi (fun z_17 ez_17 => ?_)
        have hzz_17 : z_17.toInt = (f_11 (x1.toNatClampNeg)).toInt := by rw [ez_17]
        refine lv_icmp_le (tgt := 61) hx hb dX13_chosen_53 (by decide +kernel) (fun c_18 => ?_) (fun c_18 => ?_)
        · rw [fa_le] at c_18
          refine lv_aload_n hx hb dX13_chosen_61 rfl (lv_at hl 0 rfl) ?_
          refine lv_iload_n hx hb dX13_chosen_62 rfl (lv_at hl 1 rfl) ?_
          refine lv_iload_n hx hb dX13_chosen_63 rfl (lv_at hl 2 rfl) ?_
          refine lv_iload_n hx hb dX13_chosen_64 rfl (lv_at hl 3 rfl) ?_
          have hFc := va_free (wc := [(h0, .inr (10, (Value.int (q 0) :: Value.int (q 1) :: Value.int (q 2) :: Value.int (q 3) :: Value.int (q 4) :: Value.int (q 5) :: Value.int (q 6) :: Value.int (q 7) :: Value.ref (a 8) :: Value.ref (a 9) :: Value.ref (a 10) :: Value.ref (a 11) :: Value.ref (a 12) :: Value.ref (a 13) :: Value.int 0 :: Value.long l_9 :: Value.long l_10 :: Value.ref (a 17) :: Value.ref (a 18) :: Value.ref (a 19) :: Value.ref (a 20) :: Value.ref (a 21) :: Value.ref (a 22) :: Value.ref (a 23) :: Value.int (q 24) :: Value.ref (a 25) :: Value.int (q 26) :: Value.ref (a 27) :: Value.int (q 28) :: Value.int (q 29) :: Value.int (q 30) :: Value.int (q 31) :: Value.int (q 32) :: Value.int (q 33) :: Value.ref (a 34) :: Value.ref (a 35) :: Value.ref (a 36) :: Value.ref (a 37) :: Value.ref (a 38) :: Value.ref (a 39) :: Value.ref (a 40) :: Value.int (q 41) :: Value.ref (a 42) :: Value.int (q 43) :: Value.int (q 44) :: []))), ((a 8), .inl (T 0, 24, .inl f8)), ((a 9), .inl (T 0, 24, .inl f9)), ((a 10), .inl (T 0, 24, .inl f10)), ((a 11), .inl (T 0, 24, .inl f11)), ((a 17), .inl (T 0, 24, .inl f_11)), ((a 20), .inl (T 1, 672, .inr (.inl f_14))), ((a 21), .inl (T 1, 672, .inr (.inl f_15))), ((a 22), .inl (T 4, 672, .inl f_16))]) hD hS hA [0, 1, 2, 3, 4, 5, 8, 9, 10] rfl
          refine va_calli (va_runV (As := [.int x1, .int x2, .int x3]) (rest := []) ⟨hx, hb, hml, hown, hts⟩ (c_X13_chosenAt l D T _ h0 (fun k => cond (Nat.beq k 14) 0 (q k)) l_9 l_10 a f8 f9 f10 f11 f_11 f_14 f_15 f_16 x1 x2 x3 (show ∀ j : Nat, isB (f_16 j) from hZ) (show 0 ≤ x1.toInt ∧ x1.toInt < 24 from (by omega)) (show 0 ≤ x2.toInt ∧ x2.toInt ≤ 6 from (by omega)) (show 0 ≤ x3.toInt ∧ x3.toInt ≤ x2.toInt from (by omega)) (show 0 ≤ (f10 (x1.toNatClampNeg)).toInt ∧ (f10 (x1.toNatClampNeg)).toInt < x1.toInt from (by omega)) (show 0 ≤ (f11 (x1.toNatClampNeg)).toInt ∧ (f11 (x1.toNatClampNeg)).toInt < x1.toInt from (by omega)) (show ∀ j : Nat, (j : Int) < 28 * x1.toInt → 1 ≤ (f_15 j).toInt from (fun j hj => hW1 j (by omega))) (show (f8 (x1.toNatClampNeg)).toInt = 6 ∨ (f8 (x1.toNatClampNeg)).toInt = 7 from (by omega))) (cwV 3 hts gX13_chosen_X13_chosenAt rfl rfl rfl hv_X13_chosenAt ⟨Nat.le_of_ble_eq_true rfl, Nat.le_of_ble_eq_true rfl⟩) (pW_V (q := (RX13, TX13, 45)) (ci := 10) (q0 := 0) hP hE hD rfl rfl [0, 1, 2, 3, 4, 5, 8, 9, 10] (by decide +kernel) rfl rfl) rfl rfl hl.1 rfl (lv_room (Nat.le_of_ble_eq_true rfl)) dX13_chosen_65 ⟨Nat.le_of_ble_eq_true rfl, Nat.le_of_ble_eq_true rfl⟩) hS (fun q _ h => hFc q h) hFc (fun r_19 u_20 t H1 locs ht hvm hr_19 hB hz1 hk1 hS => ?_)
          obtain ⟨hi0_r_19, hi1_r_19⟩ := hr_19
          have hj0_r_19 : r_19.toInt = -5 ∨ (0 ≤ r_19.toInt ∧ r_19.toInt < x1.toInt) := hi0_r_19
          have hj1_r_19 : r_19 = pickW (lqW (q 0) (q 1) (q 2) (q 3) (q 4) (q 5) (q 6)) f8 f9 f10 f11 f_11 (tabW f_14 f_15 f_16) x1 x2 x3 := hi1_r_19
          obtain ⟨hP1, hD1⟩ := hB
          rw [ht] at hP1
          obtain ⟨hP, hD⟩ := va_repl [(h0, .inr (10, (Value.int (q 0) :: Value.int (q 1) :: Value.int (q 2) :: Value.int (q 3) :: Value.int (q 4) :: Value.int (q 5) :: Value.int (q 6) :: Value.int (q 7) :: Value.ref (a 8) :: Value.ref (a 9) :: Value.ref (a 10) :: Value.ref (a 11) :: Value.ref (a 12) :: Value.ref (a 13) :: Value.int 0 :: Value.long l_9 :: Value.long l_10 :: Value.ref (a 17) :: Value.ref (a 18) :: Value.ref (a 19) :: Value.ref (a 20) :: Value.ref (a 21) :: Value.ref (a 22) :: Value.ref (a 23) :: Value.int (q 24) :: Value.ref (a 25) :: Value.int (q 26) :: Value.ref (a 27) :: Value.int (q 28) :: Value.int (q 29) :: Value.int (q 30) :: Value.int (q 31) :: Value.int (q 32) :: Value.int (q 33) :: Value.ref (a 34) :: Value.ref (a 35) :: Value.ref (a 36) :: Value.ref (a 37) :: Value.ref (a 38) :: Value.ref (a 39) :: Value.ref (a 40) :: Value.int (q 41) :: Value.ref (a 42) :: Value.int (q 43) :: Value.int (q 44) :: []))), ((a 8), .inl (T 0, 24, .inl f8)), ((a 9), .inl (T 0, 24, .inl f9)), ((a 10), .inl (T 0, 24, .inl f10)), ((a 11), .inl (T 0, 24, .inl f11)), ((a 17), .inl (T 0, 24, .inl f_11)), ((a 18), .inl (T 0, 24, .inl f_12)), ((a 19), .inl (T 0, 24, .inl f_13)), ((a 20), .inl (T 1, 672, .inr (.inl f_14))), ((a 21), .inl (T 1, 672, .inr (.inl f_15))), ((a 22), .inl (T 4, 672, .inl f_16))] hP hD [0, 1, 2, 3, 4, 5, 8, 9, 10] [0, 1, 2, 3, 4, 5, 8, 9, 10] rfl (by decide +kernel) rfl rfl rfl hk1 hP1
          clear hP1 hD1 hFc
          generalize H1 = H at hP hS ⊢
          exact W.iret hx hb hr (fun t ht hW => ⟨⟨_, (0, l_9, l_10, f_11, f_12, f_13, f_14, f_15, f_16), rfl, ⟨(show isB 0 from isB0), (show ∀ j : Nat, isB (f_16 j) from hZ), (show atV (q 7) x1 x2 x3 ∧ ((f8 (x1.toNatClampNeg)).toNatClampNeg = 6 ∨ (f8 (x1.toNatClampNeg)).toNatClampNeg = 7) → ∀ j : Nat, (j : Int) < (q 7).toInt → mesP f8 f9 f10 f11 f_11 f_12 f_13 j from (fun _ => hMEr)), (show chQ (lqW (q 0) (q 1) (q 2) (q 3) (q 4) (q 5) (q 6)) f8 f9 f10 f11 f_11 (VALW (lqW (q 0) (q 1) (q 2) (q 3) (q 4) (q 5) (q 6)) f8 f9 f10 f11 f_11) (q 7) x1 x2 x3 r_19 from (Or.inr ⟨⟨⟨(by omega), (by omega), (by omega)⟩, (by omega)⟩, Or.inr ⟨(by omega), hj1_r_19.trans (pick_ext ⟨rfl, rfl, rfl⟩ rfl rfl ⟨rfl, rfl, hTV _ x2 x3 ⟨⟨(by omega), (by omega)⟩, (by omega), (by omega)⟩ (by omega) (by omega)⟩ (Or.inr ⟨rfl, rfl, hTV _ x2 x3 ⟨⟨(by omega), (by omega)⟩, (by omega), (by omega)⟩ (by omega) (by omega)⟩))⟩⟩))⟩, by rw [ht]; exact hP.sub [0, 1, 2, 3, 4, 5, 6, 7, 8, 9, 10] rfl, hD.sub [0, 1, 2, 3, 4, 5, 6, 7, 8, 9, 10] (by decide +kernel) rfl⟩, hS.F ht⟩) hS.2.2 dX13_chosen_68
        · rw [fa_le] at c_18
          refine lv_bipush (v := (-3)) hx hb dX13_chosen_56 (by decide +kernel) ?_
          refine lv_goto (tgt := 68) hx hb dX13_chosen_58 (by decide +kernel) ?_
          exact W.iret hx hb hr (fun t ht hW => ⟨⟨_, (0, l_9, l_10, f_11, f_12, f_13, f_14, f_15, f_16), rfl, ⟨(show isB 0 from isB0), (show ∀ j : Nat, isB (f_16 j) from hZ), (show atV (q 7) x1 x2 x3 ∧ ((f8 (x1.toNatClampNeg)).toNatClampNeg = 6 ∨ (f8 (x1.toNatClampNeg)).toNatClampNeg = 7) → ∀ j : Nat, (j : Int) < (q 7).toInt → mesP f8 f9 f10 f11 f_11 f_12 f_13 j from (fun _ => hMEr)), (show chQ (lqW (q 0) (q 1) (q 2) (q 3) (q 4) (q 5) (q 6)) f8 f9 f10 f11 f_11 (VALW (lqW (q 0) (q 1) (q 2) (q 3) (q 4) (q 5) (q 6)) f8 f9 f10 f11 f_11) (q 7) x1 x2 x3 ((-3) : Int32) from (Or.inr ⟨⟨⟨(by omega), (by omega), (by omega)⟩, (by omega)⟩, Or.inl ⟨(by omega), (by decide +kernel)⟩⟩))⟩, by rw [ht]; exact hP.sub [0, 1, 2, 3, 4, 5, 6, 7, 8, 9, 10] rfl, hD.sub [0, 1, 2, 3, 4, 5, 6, 7, 8, 9, 10] (by decide +kernel) rfl⟩, hS.F ht⟩) hS.2.2 dX13_chosen_68
      · rw [fa_eq] at c_6
        try rw [ti_6] at c_6
        refine lv_aload_n hx hb dX13_chosen_27 rfl (lv_at hl 0 rfl) ?_
        refine va_get (D := D) (ci := 10) (v := .ref (a 8)) (C := RX13) (T := TX13) (N := 45) hx hb hts in_X13_chosen_X13 hown hE.1 hP 0 rfl rfl 8 (by decide +kernel) (hts (.fieldLink RX13 28 "ClauseBookModel" "kind" "[I") (List.mem_of_getElem? (i := 1) rfl)) (fun _ h9 => h9) rfl dX13_chosen_28 ?_
        refine lv_iload_n hx hb dX13_chosen_31 rfl (lv_at hl 1 rfl) ?_
        refine va_iald hx hb hE.1 hP 1 0 rfl rfl (by rw [vp_in_iff]; first | omega | (subst_vars; omega)) dX13_chosen_32 ?_
        refine lv_topi (fun z_21 ez_21 => ?_)
        have htz_21 : z_21.toInt = (f8 (x1.toNatClampNeg)).toInt := by rw [ez_21]
        have hJ := (in24 (x := x1) (by omega))
        have tk9 := tn (x := f8 (x1.toNatClampNeg)) (hokR _ hJ.1).1.1
        refine lv_bipush (v := 7) hx hb dX13_chosen_33 (by decide +kernel) ?_
        refine lv_icmp_eq (tgt := 41) hx hb dX13_chosen_35 (by decide +kernel) (fun c_22 => ?_) (fun c_22 => ?_)
        · rw [fa_eq] at c_22
          try rw [ti_7] at c_22
          refine lv_aload_n hx hb dX13_chosen_41 rfl (lv_at hl 0 rfl) ?_
          refine lv_iload_n hx hb dX13_chosen_42 rfl (lv_at hl 1 rfl) ?_
          have hn9 := nm_choice (z := f8 (x1.toNatClampNeg)) (by omega)
          have hc8 := (hokR _ hJ.1).2.1 (by omega)
          have hd8 := (hokR _ hJ.1).2.2 (by omega)
          have hFc := va_free (wc := [(h0, .inr (10, (Value.int (q 0) :: Value.int (q 1) :: Value.int (q 2) :: Value.int (q 3) :: Value.int (q 4) :: Value.int (q 5) :: Value.int (q 6) :: Value.int (q 7) :: Value.ref (a 8) :: Value.ref (a 9) :: Value.ref (a 10) :: Value.ref (a 11) :: Value.ref (a 12) :: Value.ref (a 13) :: Value.int (q 14) :: Value.long v :: Value.long w :: Value.ref (a 17) :: Value.ref (a 18) :: Value.ref (a 19) :: Value.ref (a 20) :: Value.ref (a 21) :: Value.ref (a 22) :: Value.ref (a 23) :: Value.int (q 24) :: Value.ref (a 25) :: Value.int (q 26) :: Value.ref (a 27) :: Value.int (q 28) :: Value.int (q 29) :: Value.int (q 30) :: Value.int (q 31) :: Value.int (q 32) :: Value.int (q 33) :: Value.ref (a 34) :: Value.ref (a 35) :: Value.ref (a 36) :: Value.ref (a 37) :: Value.ref (a 38) :: Value.ref (a 39) :: Value.ref (a 40) :: Value.int (q 41) :: Value.ref (a 42) :: Value.int (q 43) :: Value.int (q 44) :: []))), ((a 8), .inl (T 0, 24, .inl f8)), ((a 9), .inl (T 0, 24, .inl f9)), ((a 10), .inl (T 0, 24, .inl f10)), ((a 11), .inl (T 0, 24, .inl f11)), ((a 17), .inl (T 0, 24, .inl f17)), ((a 18), .inl (T 0, 24, .inl f18)), ((a 19), .inl (T 0, 24, .inl f19)), ((a 20), .inl (T 1, 672, .inr (.inl f20))), ((a 21), .inl (T 1, 672, .inr (.inl f21))), ((a 22), .inl (T 4, 672, .inl f22))]) hD hS hA [0, 1, 2, 3, 4, 5, 6, 7, 8, 9, 10] rfl
          refine va_callv (va_runV (As := [.int x1]) (rest := []) ⟨hx, hb, hml, hown, hts⟩ (c_X13_laysWorths l D T _ h0 q v w a f8 f9 f10 f11 f17 f18 f19 f20 f21 f22 x1 (show 0 ≤ (q 7).toInt ∧ (q 7).toInt ≤ 24 from (by omega)) (show okR f8 f10 f11 from hokR) (show ∀ j : Nat, isB (f22 j) from hZ) (show (1 ≤ (q 4).toInt ∧ (q 4).toInt ≤ 9) ∧ 1 ≤ (q 6).toInt ∧ (q 6).toInt ≤ 9 from (by omega)) (show -1 ≤ x1.toInt ∧ x1.toInt < (q 7).toInt from (by omega))) (cwV 1 hts gX13_chosen_X13_laysWorths rfl rfl rfl hv_X13_laysWorths ⟨Nat.le_of_ble_eq_true rfl, Nat.le_of_ble_eq_true rfl⟩) (pW_V (q := (RX13, TX13, 45)) (ci := 10) (q0 := 0) hP hE hD rfl rfl [0, 1, 2, 3, 4, 5, 6, 7, 8, 9, 10] (by decide +kernel) rfl rfl) rfl rfl hl.1 rfl (lv_room (Nat.le_of_ble_eq_true rfl)) dX13_chosen_43 ⟨Nat.le_of_ble_eq_true rfl, Nat.le_of_ble_eq_true rfl⟩) hS (fun q _ h => hFc q h) hFc (fun u_24 t H1 locs ht hvm hr_23 hB hz1 hk1 hS => ?_)
          obtain ⟨l_25, l_26, f_27, f_28, f_29, f_30, f_31, f_32⟩ := u_24
          obtain ⟨hi0_r_23, hi1_r_23, hi2_r_23, hi3_r_23, hi4_r_23⟩ := hr_23
          have hZ : ∀ j : Nat, isB (f_32 j) := hi0_r_23
          have hEE : okE f8 f10 f_27 (q 7).toInt := hi1_r_23
          have hW1 : ∀ j : Nat, (j : Int) < 28 * (x1.toInt + 1) → 1 ≤ (f_31 j).toInt := hi2_r_23
          have hTV : ∀ y t s : Int32, spK t s → 0 ≤ y.toInt → y.toInt ≤ x1.toInt → tabW f_30 f_31 f_32 y t s = VALW (lqW (q 0) (q 1) (q 2) (q 3) (q 4) (q 5) (q 6)) f8 f9 f10 f11 f_27 y t s := hi3_r_23
          have hMEr : ∀ j : Nat, (j : Int) < (q 7).toInt → mesP f8 f9 f10 f11 f_27 f_28 f_29 j := hi4_r_23
          obtain ⟨hP1, hD1⟩ := hB
          rw [ht] at hP1
          obtain ⟨hP, hD⟩ := va_repl [(h0, .inr (10, (Value.int (q 0) :: Value.int (q 1) :: Value.int (q 2) :: Value.int (q 3) :: Value.int (q 4) :: Value.int (q 5) :: Value.int (q 6) :: Value.int (q 7) :: Value.ref (a 8) :: Value.ref (a 9) :: Value.ref (a 10) :: Value.ref (a 11) :: Value.ref (a 12) :: Value.ref (a 13) :: Value.int 0 :: Value.long l_25 :: Value.long l_26 :: Value.ref (a 17) :: Value.ref (a 18) :: Value.ref (a 19) :: Value.ref (a 20) :: Value.ref (a 21) :: Value.ref (a 22) :: Value.ref (a 23) :: Value.int (q 24) :: Value.ref (a 25) :: Value.int (q 26) :: Value.ref (a 27) :: Value.int (q 28) :: Value.int (q 29) :: Value.int (q 30) :: Value.int (q 31) :: Value.int (q 32) :: Value.int (q 33) :: Value.ref (a 34) :: Value.ref (a 35) :: Value.ref (a 36) :: Value.ref (a 37) :: Value.ref (a 38) :: Value.ref (a 39) :: Value.ref (a 40) :: Value.int (q 41) :: Value.ref (a 42) :: Value.int (q 43) :: Value.int (q 44) :: []))), ((a 8), .inl (T 0, 24, .inl f8)), ((a 9), .inl (T 0, 24, .inl f9)), ((a 10), .inl (T 0, 24, .inl f10)), ((a 11), .inl (T 0, 24, .inl f11)), ((a 17), .inl (T 0, 24, .inl f_27)), ((a 18), .inl (T 0, 24, .inl f_28)), ((a 19), .inl (T 0, 24, .inl f_29)), ((a 20), .inl (T 1, 672, .inr (.inl f_30))), ((a 21), .inl (T 1, 672, .inr (.inl f_31))), ((a 22), .inl (T 4, 672, .inl f_32))] hP hD [0, 1, 2, 3, 4, 5, 6, 7, 8, 9, 10] [0, 1, 2, 3, 4, 5, 6, 7, 8, 9, 10] rfl (by decide +kernel) rfl rfl rfl hk1 hP1
          clear hP1 hD1 hFc
          generalize H1 = H at hP hS ⊢
          refine lv_iload_n hx hb dX13_chosen_46 rfl (lv_at hl 2 rfl) ?_
          refine lv_aload_n hx hb dX13_chosen_47 rfl (lv_at hl 0 rfl) ?_
          refine va_get (D := D) (ci := 10) (v := .ref (a 17)) (C := RX13) (T := TX13) (N := 45) hx hb hts in_X13_chosen_X13 hown hE.1 hP 0 rfl rfl 17 (by decide +kernel) (hts (.fieldLink RX13 47 "ClauseBookModel" "end" "[I") (List.mem_of_getElem? (i := 2) rfl)) (fun _ h9 => h9) rfl dX13_chosen_48 ?_
          refine lv_iload_n hx hb dX13_chosen_51 rfl (lv_at hl 1 rfl) ?_
          refine va_iald hx hb hE.1 hP 5 0 rfl rfl (by rw [vp_in_iff]; first | omega | (subst_vars; omega)) dX13_chosen_52 ?_
          refine lv_topi (fun z_33 ez_33 => ?_)
          have hzz_33 : z_33.toInt = (f_27 (x1.toNatClampNeg)).toInt := by rw [ez_33]
          refine lv_icmp_le (tgt := 61) hx hb dX13_chosen_53 (by decide +kernel) (fun c_34 => ?_) (fun c_34 => ?_)
          · rw [fa_le] at c_34
            refine lv_aload_n hx hb dX13_chosen_61 rfl (lv_at hl 0 rfl) ?_
            refine lv_iload_n hx hb dX13_chosen_62 rfl (lv_at hl 1 rfl) ?_
            refine lv_iload_n hx hb dX13_chosen_63 rfl (lv_at hl 2 rfl) ?_
            refine lv_iload_n hx hb dX13_chosen_64 rfl (lv_at hl 3 rfl) ?_
            have hFc := va_free (wc := [(h0, .inr (10, (Value.int (q 0) :: Value.int (q 1) :: Value.int (q 2) :: Value.int (q 3) :: Value.int (q 4) :: Value.int (q 5) :: Value.int (q 6) :: Value.int (q 7) :: Value.ref (a 8) :: Value.ref (a 9) :: Value.ref (a 10) :: Value.ref (a 11) :: Value.ref (a 12) :: Value.ref (a 13) :: Value.int 0 :: Value.long l_25 :: Value.long l_26 :: Value.ref (a 17) :: Value.ref (a 18) :: Value.ref (a 19) :: Value.ref (a 20) :: Value.ref (a 21) :: Value.ref (a 22) :: Value.ref (a 23) :: Value.int (q 24) :: Value.ref (a 25) :: Value.int (q 26) :: Value.ref (a 27) :: Value.int (q 28) :: Value.int (q 29) :: Value.int (q 30) :: Value.int (q 31) :: Value.int (q 32) :: Value.int (q 33) :: Value.ref (a 34) :: Value.ref (a 35) :: Value.ref (a 36) :: Value.ref (a 37) :: Value.ref (a 38) :: Value.ref (a 39) :: Value.ref (a 40) :: Value.int (q 41) :: Value.ref (a 42) :: Value.int (q 43) :: Value.int (q 44) :: []))), ((a 8), .inl (T 0, 24, .inl f8)), ((a 9), .inl (T 0, 24, .inl f9)), ((a 10), .inl (T 0, 24, .inl f10)), ((a 11), .inl (T 0, 24, .inl f11)), ((a 17), .inl (T 0, 24, .inl f_27)), ((a 20), .inl (T 1, 672, .inr (.inl f_30))), ((a 21), .inl (T 1, 672, .inr (.inl f_31))), ((a 22), .inl (T 4, 672, .inl f_32))]) hD hS hA [0, 1, 2, 3, 4, 5, 8, 9, 10] rfl
            refine va_calli (va_runV (As := [.int x1, .int x2, .int x3]) (rest := []) ⟨hx, hb, hml, hown, hts⟩ (c_X13_chosenAt l D T _ h0 (fun k => cond (Nat.beq k 14) 0 (q k)) l_25 l_26 a f8 f9 f10 f11 f_27 f_30 f_31 f_32 x1 x2 x3 (show ∀ j : Nat, isB (f_32 j) from hZ) (show 0 ≤ x1.toInt ∧ x1.toInt < 24 from (by omega)) (show 0 ≤ x2.toInt ∧ x2.toInt ≤ 6 from (by omega)) (show 0 ≤ x3.toInt ∧ x3.toInt ≤ x2.toInt from (by omega)) (show 0 ≤ (f10 (x1.toNatClampNeg)).toInt ∧ (f10 (x1.toNatClampNeg)).toInt < x1.toInt from (by omega)) (show 0 ≤ (f11 (x1.toNatClampNeg)).toInt ∧ (f11 (x1.toNatClampNeg)).toInt < x1.toInt from (by omega)) (show ∀ j : Nat, (j : Int) < 28 * x1.toInt → 1 ≤ (f_31 j).toInt from (fun j hj => hW1 j (by omega))) (show (f8 (x1.toNatClampNeg)).toInt = 6 ∨ (f8 (x1.toNatClampNeg)).toInt = 7 from (by omega))) (cwV 3 hts gX13_chosen_X13_chosenAt rfl rfl rfl hv_X13_chosenAt ⟨Nat.le_of_ble_eq_true rfl, Nat.le_of_ble_eq_true rfl⟩) (pW_V (q := (RX13, TX13, 45)) (ci := 10) (q0 := 0) hP hE hD rfl rfl [0, 1, 2, 3, 4, 5, 8, 9, 10] (by decide +kernel) rfl rfl) rfl rfl hl.1 rfl (lv_room (Nat.le_of_ble_eq_true rfl)) dX13_chosen_65 ⟨Nat.le_of_ble_eq_true rfl, Nat.le_of_ble_eq_true rfl⟩) hS (fun q _ h => hFc q h) hFc (fun r_35 u_36 t H1 locs ht hvm hr_35 hB hz1 hk1 hS => ?_)
            obtain ⟨hi0_r_35, hi1_r_35⟩ := hr_35
            have hj0_r_35 : r_35.toInt = -5 ∨ (0 ≤ r_35.toInt ∧ r_35.toInt < x1.toInt) := hi0_r_35
            have hj1_r_35 : r_35 = pickW (lqW (q 0) (q 1) (q 2) (q 3) (q 4) (q 5) (q 6)) f8 f9 f10 f11 f_27 (tabW f_30 f_31 f_32) x1 x2 x3 := hi1_r_35
            obtain ⟨hP1, hD1⟩ := hB
            rw [ht] at hP1
            obtain ⟨hP, hD⟩ := va_repl [(h0, .inr (10, (Value.int (q 0) :: Value.int (q 1) :: Value.int (q 2) :: Value.int (q 3) :: Value.int (q 4) :: Value.int (q 5) :: Value.int (q 6) :: Value.int (q 7) :: Value.ref (a 8) :: Value.ref (a 9) :: Value.ref (a 10) :: Value.ref (a 11) :: Value.ref (a 12) :: Value.ref (a 13) :: Value.int 0 :: Value.long l_25 :: Value.long l_26 :: Value.ref (a 17) :: Value.ref (a 18) :: Value.ref (a 19) :: Value.ref (a 20) :: Value.ref (a 21) :: Value.ref (a 22) :: Value.ref (a 23) :: Value.int (q 24) :: Value.ref (a 25) :: Value.int (q 26) :: Value.ref (a 27) :: Value.int (q 28) :: Value.int (q 29) :: Value.int (q 30) :: Value.int (q 31) :: Value.int (q 32) :: Value.int (q 33) :: Value.ref (a 34) :: Value.ref (a 35) :: Value.ref (a 36) :: Value.ref (a 37) :: Value.ref (a 38) :: Value.ref (a 39) :: Value.ref (a 40) :: Value.int (q 41) :: Value.ref (a 42) :: Value.int (q 43) :: Value.int (q 44) :: []))), ((a 8), .inl (T 0, 24, .inl f8)), ((a 9), .inl (T 0, 24, .inl f9)), ((a 10), .inl (T 0, 24, .inl f10)), ((a 11), .inl (T 0, 24, .inl f11)), ((a 17), .inl (T 0, 24, .inl f_27)), ((a 18), .inl (T 0, 24, .inl f_28)), ((a 19), .inl (T 0, 24, .inl f_29)), ((a 20), .inl (T 1, 672, .inr (.inl f_30))), ((a 21), .inl (T 1, 672, .inr (.inl f_31))), ((a 22), .inl (T 4, 672, .inl f_32))] hP hD [0, 1, 2, 3, 4, 5, 8, 9, 10] [0, 1, 2, 3, 4, 5, 8, 9, 10] rfl (by decide +kernel) rfl rfl rfl hk1 hP1
            clear hP1 hD1 hFc
            generalize H1 = H at hP hS ⊢
            exact W.iret hx hb hr (fun t ht hW => ⟨⟨_, (0, l_25, l_26, f_27, f_28, f_29, f_30, f_31, f_32), rfl, ⟨(show isB 0 from isB0), (show ∀ j : Nat, isB (f_32 j) from hZ), (show atV (q 7) x1 x2 x3 ∧ ((f8 (x1.toNatClampNeg)).toNatClampNeg = 6 ∨ (f8 (x1.toNatClampNeg)).toNatClampNeg = 7) → ∀ j : Nat, (j : Int) < (q 7).toInt → mesP f8 f9 f10 f11 f_27 f_28 f_29 j from (fun _ => hMEr)), (show chQ (lqW (q 0) (q 1) (q 2) (q 3) (q 4) (q 5) (q 6)) f8 f9 f10 f11 f_27 (VALW (lqW (q 0) (q 1) (q 2) (q 3) (q 4) (q 5) (q 6)) f8 f9 f10 f11 f_27) (q 7) x1 x2 x3 r_35 from (Or.inr ⟨⟨⟨(by omega), (by omega), (by omega)⟩, (by omega)⟩, Or.inr ⟨(by omega), hj1_r_35.trans (pick_ext ⟨rfl, rfl, rfl⟩ rfl rfl ⟨rfl, rfl, hTV _ x2 x3 ⟨⟨(by omega), (by omega)⟩, (by omega), (by omega)⟩ (by omega) (by omega)⟩ (Or.inr ⟨rfl, rfl, hTV _ x2 x3 ⟨⟨(by omega), (by omega)⟩, (by omega), (by omega)⟩ (by omega) (by omega)⟩))⟩⟩))⟩, by rw [ht]; exact hP.sub [0, 1, 2, 3, 4, 5, 6, 7, 8, 9, 10] rfl, hD.sub [0, 1, 2, 3, 4, 5, 6, 7, 8, 9, 10] (by decide +kernel) rfl⟩, hS.F ht⟩) hS.2.2 dX13_chosen_68
          · rw [fa_le] at c_34
            refine lv_bipush (v := (-3)) hx hb dX13_chosen_56 (by decide +kernel) ?_
            refine lv_goto (tgt := 68) hx hb dX13_chosen_58 (by decide +kernel) ?_
            exact W.iret hx hb hr (fun t ht hW => ⟨⟨_, (0, l_25, l_26, f_27, f_28, f_29, f_30, f_31, f_32), rfl, ⟨(show isB 0 from isB0), (show ∀ j : Nat, isB (f_32 j) from hZ), (show atV (q 7) x1 x2 x3 ∧ ((f8 (x1.toNatClampNeg)).toNatClampNeg = 6 ∨ (f8 (x1.toNatClampNeg)).toNatClampNeg = 7) → ∀ j : Nat, (j : Int) < (q 7).toInt → mesP f8 f9 f10 f11 f_27 f_28 f_29 j from (fun _ => hMEr)), (show chQ (lqW (q 0) (q 1) (q 2) (q 3) (q 4) (q 5) (q 6)) f8 f9 f10 f11 f_27 (VALW (lqW (q 0) (q 1) (q 2) (q 3) (q 4) (q 5) (q 6)) f8 f9 f10 f11 f_27) (q 7) x1 x2 x3 ((-3) : Int32) from (Or.inr ⟨⟨⟨(by omega), (by omega), (by omega)⟩, (by omega)⟩, Or.inl ⟨(by omega), (by decide +kernel)⟩⟩))⟩, by rw [ht]; exact hP.sub [0, 1, 2, 3, 4, 5, 6, 7, 8, 9, 10] rfl, hD.sub [0, 1, 2, 3, 4, 5, 6, 7, 8, 9, 10] (by decide +kernel) rfl⟩, hS.F ht⟩) hS.2.2 dX13_chosen_68
        · rw [fa_eq] at c_22
          try rw [ti_7] at c_22
          refine lv_bipush (v := (-2)) hx hb dX13_chosen_38 (by decide +kernel) ?_
          exact W.iret hx hb hr (fun t ht hW => ⟨⟨_, ((q 14), v, w, f17, f18, f19, f20, f21, f22), rfl, ⟨(show isB (q 14) from hB), (show ∀ j : Nat, isB (f22 j) from hZ), (show atV (q 7) x1 x2 x3 ∧ ((f8 (x1.toNatClampNeg)).toNatClampNeg = 6 ∨ (f8 (x1.toNatClampNeg)).toNatClampNeg = 7) → ∀ j : Nat, (j : Int) < (q 7).toInt → mesP f8 f9 f10 f11 f17 f18 f19 j from (fun h9 => by exfalso; obtain ⟨⟨h1, h2, h3⟩, h4⟩ := h9; omega)), (show chQ (lqW (q 0) (q 1) (q 2) (q 3) (q 4) (q 5) (q 6)) f8 f9 f10 f11 f17 (VALW (lqW (q 0) (q 1) (q 2) (q 3) (q 4) (q 5) (q 6)) f8 f9 f10 f11 f17) (q 7) x1 x2 x3 ((-2) : Int32) from (Or.inl ⟨(fun h9 => by obtain ⟨⟨h1, h2, h3⟩, h4⟩ := h9; omega), (by decide +kernel)⟩))⟩, by rw [ht]; exact hP.sub [0, 1, 2, 3, 4, 5, 6, 7, 8, 9, 10] rfl, hD.sub [0, 1, 2, 3, 4, 5, 6, 7, 8, 9, 10] (by decide +kernel) rfl⟩, hS.F ht⟩) hS.2.2 dX13_chosen_40
    · refine lv_if_eq (tgt := 38) hx hb dX13_chosen_13 (by decide +kernel) (fun _ => ?_) (fun c9 => absurd c9 (by decide +kernel))
      refine lv_bipush (v := (-2)) hx hb dX13_chosen_38 (by decide +kernel) ?_
      exact W.iret hx hb hr (fun t ht hW => ⟨⟨_, ((q 14), v, w, f17, f18, f19, f20, f21, f22), rfl, ⟨(show isB (q 14) from hB), (show ∀ j : Nat, isB (f22 j) from hZ), (show atV (q 7) x1 x2 x3 ∧ ((f8 (x1.toNatClampNeg)).toNatClampNeg = 6 ∨ (f8 (x1.toNatClampNeg)).toNatClampNeg = 7) → ∀ j : Nat, (j : Int) < (q 7).toInt → mesP f8 f9 f10 f11 f17 f18 f19 j from (fun h9 => by exfalso; obtain ⟨⟨h1, h2, h3⟩, h4⟩ := h9; omega)), (show chQ (lqW (q 0) (q 1) (q 2) (q 3) (q 4) (q 5) (q 6)) f8 f9 f10 f11 f17 (VALW (lqW (q 0) (q 1) (q 2) (q 3) (q 4) (q 5) (q 6)) f8 f9 f10 f11 f17) (q 7) x1 x2 x3 ((-2) : Int32) from (Or.inl ⟨(fun h9 => by obtain ⟨⟨h1, h2, h3⟩, h4⟩ := h9; omega), (by decide +kernel)⟩))⟩, by rw [ht]; exact hP.sub [0, 1, 2, 3, 4, 5, 6, 7, 8, 9, 10] rfl, hD.sub [0, 1, 2, 3, 4, 5, 6, 7, 8, 9, 10] (by decide +kernel) rfl⟩, hS.F ht⟩) hS.2.2 dX13_chosen_40
  · refine lv_if_eq (tgt := 38) hx hb dX13_chosen_5 (by decide +kernel) (fun _ => ?_) (fun c9 => absurd c9 (by decide +kernel))
    refine lv_bipush (v := (-2)) hx hb dX13_chosen_38 (by decide +kernel) ?_
    exact W.iret hx hb hr (fun t ht hW => ⟨⟨_, ((q 14), v, w, f17, f18, f19, f20, f21, f22), rfl, ⟨(show isB (q 14) from hB), (show ∀ j : Nat, isB (f22 j) from hZ), (show atV (q 7) x1 x2 x3 ∧ ((f8 (x1.toNatClampNeg)).toNatClampNeg = 6 ∨ (f8 (x1.toNatClampNeg)).toNatClampNeg = 7) → ∀ j : Nat, (j : Int) < (q 7).toInt → mesP f8 f9 f10 f11 f17 f18 f19 j from (fun h9 => by exfalso; obtain ⟨⟨h1, h2, h3⟩, h4⟩ := h9; omega)), (show chQ (lqW (q 0) (q 1) (q 2) (q 3) (q 4) (q 5) (q 6)) f8 f9 f10 f11 f17 (VALW (lqW (q 0) (q 1) (q 2) (q 3) (q 4) (q 5) (q 6)) f8 f9 f10 f11 f17) (q 7) x1 x2 x3 ((-2) : Int32) from (Or.inl ⟨(fun h9 => by obtain ⟨⟨h1, h2, h3⟩, h4⟩ := h9; omega), (by decide +kernel)⟩))⟩, by rw [ht]; exact hP.sub [0, 1, 2, 3, 4, 5, 6, 7, 8, 9, 10] rfl, hD.sub [0, 1, 2, 3, 4, 5, 6, 7, 8, 9, 10] (by decide +kernel) rfl⟩, hS.F ht⟩) hS.2.2 dX13_chosen_40
end
section
theorem dX13_takenAt_0 : decode cX13_takenAt 0 = .ok (.aload_n 0, 1) := by decide +kernel
theorem dX13_takenAt_1 : decode cX13_takenAt 1 = .ok (.getfield 35, 3) := by decide +kernel
theorem dX13_takenAt_102 : decode cX13_takenAt 102 = .ok (.aload_n 0, 1) := by decide +kernel
theorem dX13_takenAt_103 : decode cX13_takenAt 103 = .ok (.getfield 149, 3) := by decide +kernel
theorem dX13_takenAt_106 : decode cX13_takenAt 106 = .ok (.invokestatic 167, 3) := by decide +kernel
theorem dX13_takenAt_109 : decode cX13_takenAt 109 = .ok (.ifCond .lt 6, 3) := by decide +kernel
theorem dX13_takenAt_11 : decode cX13_takenAt 11 = .ok (.iload 5, 2) := by decide +kernel
theorem dX13_takenAt_112 : decode cX13_takenAt 112 = .ok (.iload 5, 2) := by decide +kernel
theorem dX13_takenAt_114 : decode cX13_takenAt 114 = .ok (.ireturn, 1) := by decide +kernel
theorem dX13_takenAt_115 : decode cX13_takenAt 115 = .ok (.iinc 5 1, 3) := by decide +kernel
theorem dX13_takenAt_118 : decode cX13_takenAt 118 = .ok (.goto (-107), 3) := by decide +kernel
theorem dX13_takenAt_121 : decode cX13_takenAt 121 = .ok (.aload_n 0, 1) := by decide +kernel
theorem dX13_takenAt_122 : decode cX13_takenAt 122 = .ok (.getfield 47, 3) := by decide +kernel
theorem dX13_takenAt_125 : decode cX13_takenAt 125 = .ok (.iload 4, 2) := by decide +kernel
theorem dX13_takenAt_127 : decode cX13_takenAt 127 = .ok (.iaload, 1) := by decide +kernel
theorem dX13_takenAt_128 : decode cX13_takenAt 128 = .ok (.ireturn, 1) := by decide +kernel
theorem dX13_takenAt_13 : decode cX13_takenAt 13 = .ok (.aload_n 0, 1) := by decide +kernel
theorem dX13_takenAt_14 : decode cX13_takenAt 14 = .ok (.getfield 47, 3) := by decide +kernel
theorem dX13_takenAt_17 : decode cX13_takenAt 17 = .ok (.iload 4, 2) := by decide +kernel
theorem dX13_takenAt_19 : decode cX13_takenAt 19 = .ok (.iaload, 1) := by decide +kernel
theorem dX13_takenAt_20 : decode cX13_takenAt 20 = .ok (.if_icmp .ge 101, 3) := by decide +kernel
theorem dX13_takenAt_23 : decode cX13_takenAt 23 = .ok (.iload_n 3, 1) := by decide +kernel
theorem dX13_takenAt_24 : decode cX13_takenAt 24 = .ok (.iload 5, 2) := by decide +kernel
theorem dX13_takenAt_26 : decode cX13_takenAt 26 = .ok (.invokestatic 202, 3) := by decide +kernel
theorem dX13_takenAt_29 : decode cX13_takenAt 29 = .ok (.istore 6, 2) := by decide +kernel
theorem dX13_takenAt_31 : decode cX13_takenAt 31 = .ok (.aload_n 0, 1) := by decide +kernel
theorem dX13_takenAt_32 : decode cX13_takenAt 32 = .ok (.aload_n 0, 1) := by decide +kernel
theorem dX13_takenAt_33 : decode cX13_takenAt 33 = .ok (.iload 4, 2) := by decide +kernel
theorem dX13_takenAt_35 : decode cX13_takenAt 35 = .ok (.iload 5, 2) := by decide +kernel
theorem dX13_takenAt_37 : decode cX13_takenAt 37 = .ok (.iload 6, 2) := by decide +kernel
theorem dX13_takenAt_39 : decode cX13_takenAt 39 = .ok (.invokevirtual 299, 3) := by decide +kernel
theorem dX13_takenAt_4 : decode cX13_takenAt 4 = .ok (.iload_n 1, 1) := by decide +kernel
theorem dX13_takenAt_42 : decode cX13_takenAt 42 = .ok (.putfield 131, 3) := by decide +kernel
theorem dX13_takenAt_45 : decode cX13_takenAt 45 = .ok (.aload_n 0, 1) := by decide +kernel
theorem dX13_takenAt_46 : decode cX13_takenAt 46 = .ok (.iload_n 1, 1) := by decide +kernel
theorem dX13_takenAt_47 : decode cX13_takenAt 47 = .ok (.iload 5, 2) := by decide +kernel
theorem dX13_takenAt_49 : decode cX13_takenAt 49 = .ok (.iload 6, 2) := by decide +kernel
theorem dX13_takenAt_5 : decode cX13_takenAt 5 = .ok (.iaload, 1) := by decide +kernel
theorem dX13_takenAt_51 : decode cX13_takenAt 51 = .ok (.invokevirtual 257, 3) := by decide +kernel
theorem dX13_takenAt_54 : decode cX13_takenAt 54 = .ok (.aload_n 0, 1) := by decide +kernel
theorem dX13_takenAt_55 : decode cX13_takenAt 55 = .ok (.getfield 131, 3) := by decide +kernel
theorem dX13_takenAt_58 : decode cX13_takenAt 58 = .ok (.istore 7, 2) := by decide +kernel
theorem dX13_takenAt_6 : decode cX13_takenAt 6 = .ok (.istore 4, 2) := by decide +kernel
theorem dX13_takenAt_60 : decode cX13_takenAt 60 = .ok (.aload_n 0, 1) := by decide +kernel
theorem dX13_takenAt_61 : decode cX13_takenAt 61 = .ok (.iconst 0, 1) := by decide +kernel
theorem dX13_takenAt_62 : decode cX13_takenAt 62 = .ok (.putfield 131, 3) := by decide +kernel
theorem dX13_takenAt_65 : decode cX13_takenAt 65 = .ok (.iload 7, 2) := by decide +kernel
theorem dX13_takenAt_67 : decode cX13_takenAt 67 = .ok (.ifCond .eq 6, 3) := by decide +kernel
theorem dX13_takenAt_70 : decode cX13_takenAt 70 = .ok (.bipush (-5), 2) := by decide +kernel
theorem dX13_takenAt_72 : decode cX13_takenAt 72 = .ok (.ireturn, 1) := by decide +kernel
theorem dX13_takenAt_73 : decode cX13_takenAt 73 = .ok (.iload 4, 2) := by decide +kernel
theorem dX13_takenAt_75 : decode cX13_takenAt 75 = .ok (.iload 5, 2) := by decide +kernel
theorem dX13_takenAt_77 : decode cX13_takenAt 77 = .ok (.iload 6, 2) := by decide +kernel
theorem dX13_takenAt_79 : decode cX13_takenAt 79 = .ok (.invokestatic 239, 3) := by decide +kernel
theorem dX13_takenAt_8 : decode cX13_takenAt 8 = .ok (.iload_n 2, 1) := by decide +kernel
theorem dX13_takenAt_82 : decode cX13_takenAt 82 = .ok (.istore 8, 2) := by decide +kernel
theorem dX13_takenAt_84 : decode cX13_takenAt 84 = .ok (.aload_n 0, 1) := by decide +kernel
theorem dX13_takenAt_85 : decode cX13_takenAt 85 = .ok (.getfield 56, 3) := by decide +kernel
theorem dX13_takenAt_88 : decode cX13_takenAt 88 = .ok (.iload 8, 2) := by decide +kernel
theorem dX13_takenAt_9 : decode cX13_takenAt 9 = .ok (.istore 5, 2) := by decide +kernel
theorem dX13_takenAt_90 : decode cX13_takenAt 90 = .ok (.laload, 1) := by decide +kernel
theorem dX13_takenAt_91 : decode cX13_takenAt 91 = .ok (.aload_n 0, 1) := by decide +kernel
theorem dX13_takenAt_92 : decode cX13_takenAt 92 = .ok (.getfield 60, 3) := by decide +kernel
theorem dX13_takenAt_95 : decode cX13_takenAt 95 = .ok (.iload 8, 2) := by decide +kernel
theorem dX13_takenAt_97 : decode cX13_takenAt 97 = .ok (.laload, 1) := by decide +kernel
theorem dX13_takenAt_98 : decode cX13_takenAt 98 = .ok (.aload_n 0, 1) := by decide +kernel
theorem dX13_takenAt_99 : decode cX13_takenAt 99 = .ok (.getfield 145, 3) := by decide +kernel
set_option maxRecDepth 20000 in
theorem ggX13_takenAt_X13_at : GoodIn wsX13_takenAt wsX13_at := goodIn_r _ [19] rfl (by decide +kernel)
set_option maxRecDepth 20000 in
theorem ggX13_takenAt_X13_compared : GoodIn wsX13_takenAt wsX13_compared := goodIn_r _ [59, 60, 61, 62, 63, 57, 58, 10] rfl (by decide +kernel)
set_option maxRecDepth 20000 in
theorem ggX13_takenAt_X13_isMuchAt : GoodIn wsX13_takenAt wsX13_isMuchAt := goodIn_r _ [15, 16, 17, 18, 10, 19, 64, 65, 66, 67, 68, 69, 70, 71, 72, 73, 74, 75, 76, 77, 78, 79, 80, 81, 82, 83, 84, 85, 86, 87, 88, 89, 90, 91, 92, 93, 94, 95, 96, 97, 98, 99, 100, 101, 102, 103, 104, 105, 106, 107, 108] rfl (by decide +kernel)
set_option maxRecDepth 40000 in
theorem ggX13_takenAt_X13_means_0 : GoodIn wsX13_takenAt [.code yX13_means cX13_means 10 none] := goodIn_r _ [23] rfl (by decide +kernel)
set_option maxRecDepth 40000 in
theorem ggX13_takenAt_X13_means_1 : GoodIn wsX13_takenAt wsX13_means_r1 := goodIn_r _ [24, 6, 7, 25, 26, 27, 28, 29, 30, 10, 31, 3, 16, 4, 5, 17, 18, 19, 32, 33, 34, 35, 36, 37] rfl (by decide +kernel)
set_option maxRecDepth 40000 in
theorem ggX13_takenAt_X13_means_2 : GoodIn wsX13_takenAt wsX13_means_r2 := goodIn_r _ [38, 39, 40, 41, 42, 43, 44, 45, 46, 47, 48, 49, 50, 51, 52, 53, 54, 55, 56] rfl (by decide +kernel)
set_option maxRecDepth 40000 in
theorem ggX13_takenAt_X13_means_3 : GoodIn wsX13_takenAt wsX130 := goodIn_r _ [64, 65, 66, 67, 68, 69, 70, 71, 72, 73, 74, 75, 76, 77, 78, 79, 80, 81, 82, 83, 84, 85, 86, 87, 88, 89, 90, 91, 92, 93, 94, 95, 96, 97, 98, 99, 100, 101, 102, 103, 104, 105, 106, 107, 108] rfl (by decide +kernel)
set_option maxRecDepth 40000 in
theorem ggX13_takenAt_X13_means : GoodIn wsX13_takenAt wsX13_means := (goodIn_app ggX13_takenAt_X13_means_0 (goodIn_app (goodIn_app ggX13_takenAt_X13_means_1 ggX13_takenAt_X13_means_2) ggX13_takenAt_X13_means_3))
set_option maxRecDepth 20000 in
theorem ggX13_takenAt_X13_spotAt : GoodIn wsX13_takenAt wsX13_spotAt := goodIn_r _ [11] rfl (by decide +kernel)
set_option maxRecDepth 20000 in
theorem gX13_takenAt_X13_at : GoodIn wsX13_takenAt (va_wsS RX13 239 yX13_at wsX13_at) := goodIn_app (goodIn_of _ (by decide +kernel)) ggX13_takenAt_X13_at
set_option maxRecDepth 20000 in
theorem gX13_takenAt_X13_compared : GoodIn wsX13_takenAt (va_wsS RX13 167 yX13_compared wsX13_compared) := goodIn_app (goodIn_of _ (by decide +kernel)) ggX13_takenAt_X13_compared
set_option maxRecDepth 20000 in
theorem gX13_takenAt_X13_isMuchAt : GoodIn wsX13_takenAt (wsV RX13 299 RX13 yX13_isMuchAt wsX13_isMuchAt) := goodIn_app (goodIn_r _ [12, 13, 14, 10] rfl (by decide +kernel)) ggX13_takenAt_X13_isMuchAt
set_option maxRecDepth 20000 in
theorem gX13_takenAt_X13_means : GoodIn wsX13_takenAt (wsV RX13 257 RX13 yX13_means wsX13_means) := goodIn_app (goodIn_r _ [20, 21, 22, 10] rfl (by decide +kernel)) ggX13_takenAt_X13_means
set_option maxRecDepth 20000 in
theorem gX13_takenAt_X13_spotAt : GoodIn wsX13_takenAt (va_wsS RX13 202 yX13_spotAt wsX13_spotAt) := goodIn_app (goodIn_of _ (by decide +kernel)) ggX13_takenAt_X13_spotAt
set_option maxRecDepth 20000 in
theorem in_X13_takenAt_X13 : ∀ w ∈ wsX130, w ∈ wsX13_takenAt := sub_r [64, 65, 66, 67, 68, 69, 70, 71, 72, 73, 74, 75, 76, 77, 78, 79, 80, 81, 82, 83, 84, 85, 86, 87, 88, 89, 90, 91, 92, 93, 94, 95, 96, 97, 98, 99, 100, 101, 102, 103, 104, 105, 106, 107, 108] rfl
set_option maxHeartbeats 4000000 in
set_option maxRecDepth 100000 in
theorem c_X13_takenAt (l : Launch) (D : va_G) (T : Nat → ClassId) (sz : Nat) (h0 : Nat) (q : Nat → Int32) (v : Int64) (w : Int64) (a : Nat → Nat) (f10 : Nat → Int32) (f17 : Nat → Int32) (f20 : Nat → Int64) (f21 : Nat → Int64) (f22 : Nat → Int32) (x1 : Int32) (x2 : Int32) (x3 : Int32) (hB : isB (q 14)) (hZ : ∀ j : Nat, isB (f22 j)) (hL : (1 ≤ (q 4).toInt ∧ (q 4).toInt ≤ 9) ∧ 1 ≤ (q 6).toInt ∧ (q 6).toInt ≤ 9) (hx1 : 0 ≤ x1.toInt ∧ x1.toInt < 24) (hx2 : 0 ≤ x2.toInt ∧ x2.toInt ≤ 6) (hx3 : 0 ≤ x3.toInt ∧ x3.toInt ≤ 63) (hc9 : 0 ≤ (f10 (x1.toNatClampNeg)).toInt ∧ (f10 (x1.toNatClampNeg)).toInt < x1.toInt) (hec : x2.toInt ≤ (f17 ((f10 (x1.toNatClampNeg)).toNatClampNeg)).toInt ∧ (f17 ((f10 (x1.toNatClampNeg)).toNatClampNeg)).toInt ≤ 6) (hW1 : ∀ j : Nat, (j : Int) < 28 * (x1.toInt + 1) → 1 ≤ (f21 j).toInt) : Met l yX13_takenAt wsX13_takenAt ({ frames := 130, cells := 0, slots := 0, locals := 5175 }) (pW [.ref h0, .int x1, .int x2, .int x3] D T [(h0, .inr (10, (Value.int (q 0) :: Value.int (q 1) :: Value.int (q 2) :: Value.int (q 3) :: Value.int (q 4) :: Value.int (q 5) :: Value.int (q 6) :: Value.int (q 7) :: Value.ref (a 8) :: Value.ref (a 9) :: Value.ref (a 10) :: Value.ref (a 11) :: Value.ref (a 12) :: Value.ref (a 13) :: Value.int (q 14) :: Value.long v :: Value.long w :: Value.ref (a 17) :: Value.ref (a 18) :: Value.ref (a 19) :: Value.ref (a 20) :: Value.ref (a 21) :: Value.ref (a 22) :: Value.ref (a 23) :: Value.int (q 24) :: Value.ref (a 25) :: Value.int (q 26) :: Value.ref (a 27) :: Value.int (q 28) :: Value.int (q 29) :: Value.int (q 30) :: Value.int (q 31) :: Value.int (q 32) :: Value.int (q 33) :: Value.ref (a 34) :: Value.ref (a 35) :: Value.ref (a 36) :: Value.ref (a 37) :: Value.ref (a 38) :: Value.ref (a 39) :: Value.ref (a 40) :: Value.int (q 41) :: Value.ref (a 42) :: Value.int (q 43) :: Value.int (q 44) :: []))), ((a 10), .inl (T 0, 24, .inl f10)), ((a 17), .inl (T 0, 24, .inl f17)), ((a 20), .inl (T 1, 672, .inr (.inl f20))), ((a 21), .inl (T 1, 672, .inr (.inl f21))), ((a 22), .inl (T 4, 672, .inl f22))] sz) (va_Qi (fun (r : Int32) (u : (Int32) × (Int64) × (Int64)) => (isB u.1) ∧ (r.toInt = -5 ∨ (0 ≤ r.toInt ∧ r.toInt ≤ 6)) ∧ (takQ (lqW (q 0) (q 1) (q 2) (q 3) (q 4) (q 5) (q 6)) f10 (tabW f20 f21 f22) (f17 ((f10 (x1.toNatClampNeg)).toNatClampNeg)).toInt x1 x3 x2 r)) (bW D (va_A [(h0, .inr (10, (Value.int (q 0) :: Value.int (q 1) :: Value.int (q 2) :: Value.int (q 3) :: Value.int (q 4) :: Value.int (q 5) :: Value.int (q 6) :: Value.int (q 7) :: Value.ref (a 8) :: Value.ref (a 9) :: Value.ref (a 10) :: Value.ref (a 11) :: Value.ref (a 12) :: Value.ref (a 13) :: Value.int (q 14) :: Value.long v :: Value.long w :: Value.ref (a 17) :: Value.ref (a 18) :: Value.ref (a 19) :: Value.ref (a 20) :: Value.ref (a 21) :: Value.ref (a 22) :: Value.ref (a 23) :: Value.int (q 24) :: Value.ref (a 25) :: Value.int (q 26) :: Value.ref (a 27) :: Value.int (q 28) :: Value.int (q 29) :: Value.int (q 30) :: Value.int (q 31) :: Value.int (q 32) :: Value.int (q 33) :: Value.ref (a 34) :: Value.ref (a 35) :: Value.ref (a 36) :: Value.ref (a 37) :: Value.ref (a 38) :: Value.ref (a 39) :: Value.ref (a 40) :: Value.int (q 41) :: Value.ref (a 42) :: Value.int (q 43) :: Value.int (q 44) :: []))), ((a 10), .inl (T 0, 24, .inl f10)), ((a 17), .inl (T 0, 24, .inl f17)), ((a 20), .inl (T 1, 672, .inr (.inl f20))), ((a 21), .inl (T 1, 672, .inr (.inl f21))), ((a 22), .inl (T 4, 672, .inl f22))] sz) (fun (u : (Int32) × (Int64) × (Int64)) => [(h0, .inr (10, (Value.int (q 0) :: Value.int (q 1) :: Value.int (q 2) :: Value.int (q 3) :: Value.int (q 4) :: Value.int (q 5) :: Value.int (q 6) :: Value.int (q 7) :: Value.ref (a 8) :: Value.ref (a 9) :: Value.ref (a 10) :: Value.ref (a 11) :: Value.ref (a 12) :: Value.ref (a 13) :: Value.int u.1 :: Value.long u.2.1 :: Value.long u.2.2 :: Value.ref (a 17) :: Value.ref (a 18) :: Value.ref (a 19) :: Value.ref (a 20) :: Value.ref (a 21) :: Value.ref (a 22) :: Value.ref (a 23) :: Value.int (q 24) :: Value.ref (a 25) :: Value.int (q 26) :: Value.ref (a 27) :: Value.int (q 28) :: Value.int (q 29) :: Value.int (q 30) :: Value.int (q 31) :: Value.int (q 32) :: Value.int (q 33) :: Value.ref (a 34) :: Value.ref (a 35) :: Value.ref (a 36) :: Value.ref (a 37) :: Value.ref (a 38) :: Value.ref (a 39) :: Value.ref (a 40) :: Value.int (q 41) :: Value.ref (a 42) :: Value.int (q 43) :: Value.int (q 44) :: []))), ((a 10), .inl (T 0, 24, .inl f10)), ((a 17), .inl (T 0, 24, .inl f17)), ((a 20), .inl (T 1, 672, .inr (.inl f20))), ((a 21), .inl (T 1, 672, .inr (.inl f21))), ((a 22), .inl (T 4, 672, .inl f22))])) (va_A [(h0, .inr (10, (Value.int (q 0) :: Value.int (q 1) :: Value.int (q 2) :: Value.int (q 3) :: Value.int (q 4) :: Value.int (q 5) :: Value.int (q 6) :: Value.int (q 7) :: Value.ref (a 8) :: Value.ref (a 9) :: Value.ref (a 10) :: Value.ref (a 11) :: Value.ref (a 12) :: Value.ref (a 13) :: Value.int (q 14) :: Value.long v :: Value.long w :: Value.ref (a 17) :: Value.ref (a 18) :: Value.ref (a 19) :: Value.ref (a 20) :: Value.ref (a 21) :: Value.ref (a 22) :: Value.ref (a 23) :: Value.int (q 24) :: Value.ref (a 25) :: Value.int (q 26) :: Value.ref (a 27) :: Value.int (q 28) :: Value.int (q 29) :: Value.int (q 30) :: Value.int (q 31) :: Value.int (q 32) :: Value.int (q 33) :: Value.ref (a 34) :: Value.ref (a 35) :: Value.ref (a 36) :: Value.ref (a 37) :: Value.ref (a 38) :: Value.ref (a 39) :: Value.ref (a 40) :: Value.int (q 41) :: Value.ref (a 42) :: Value.int (q 43) :: Value.int (q 44) :: []))), ((a 10), .inl (T 0, 24, .inl f10)), ((a 17), .inl (T 0, 24, .inl f17)), ((a 20), .inl (T 1, 672, .inr (.inl f20))), ((a 21), .inl (T 1, 672, .inr (.inl f21))), ((a 22), .inl (T 4, 672, .inl f22))] sz)) 0 0 (va_A [(h0, .inr (10, (Value.int (q 0) :: Value.int (q 1) :: Value.int (q 2) :: Value.int (q 3) :: Value.int (q 4) :: Value.int (q 5) :: Value.int (q 6) :: Value.int (q 7) :: Value.ref (a 8) :: Value.ref (a 9) :: Value.ref (a 10) :: Value.ref (a 11) :: Value.ref (a 12) :: Value.ref (a 13) :: Value.int (q 14) :: Value.long v :: Value.long w :: Value.ref (a 17) :: Value.ref (a 18) :: Value.ref (a 19) :: Value.ref (a 20) :: Value.ref (a 21) :: Value.ref (a 22) :: Value.ref (a 23) :: Value.int (q 24) :: Value.ref (a 25) :: Value.int (q 26) :: Value.ref (a 27) :: Value.int (q 28) :: Value.int (q 29) :: Value.int (q 30) :: Value.int (q 31) :: Value.int (q 32) :: Value.int (q 33) :: Value.ref (a 34) :: Value.ref (a 35) :: Value.ref (a 36) :: Value.ref (a 37) :: Value.ref (a 38) :: Value.ref (a 39) :: Value.ref (a 40) :: Value.int (q 41) :: Value.ref (a 42) :: Value.int (q 43) :: Value.int (q 44) :: []))), ((a 10), .inl (T 0, 24, .inl f10)), ((a 17), .inl (T 0, 24, .inl f17)), ((a 20), .inl (T 1, 672, .inr (.inl f20))), ((a 21), .inl (T 1, 672, .inr (.inl f21))), ((a 22), .inl (T 4, 672, .inl f22))] sz) := by
  refine Met.ofW (cc := cX13_takenAt) (maxL := 9) (ret := (some .int)) (by decide +kernel) rfl ?_
  intro p e s m args below meth c s₁ B hml hv
  obtain ⟨rfl, hsz, hP, hE, hD0⟩ := hv
  have hx := B.exec
  have hb := B.bytes
  have hr := B.returns
  have hts := atoms_spec (ws := wsX13_takenAt) B.pre
  have hown : s.vm.findClass RX13 = some m.cls := findClass_of_methodNamed B.named
  have hlocks := B.notSynchronized
  subst hsz
  have hD := hD0.self (sz := s.heap.size)
  generalize hAe : va_A [(h0, .inr (10, (Value.int (q 0) :: Value.int (q 1) :: Value.int (q 2) :: Value.int (q 3) :: Value.int (q 4) :: Value.int (q 5) :: Value.int (q 6) :: Value.int (q 7) :: Value.ref (a 8) :: Value.ref (a 9) :: Value.ref (a 10) :: Value.ref (a 11) :: Value.ref (a 12) :: Value.ref (a 13) :: Value.int (q 14) :: Value.long v :: Value.long w :: Value.ref (a 17) :: Value.ref (a 18) :: Value.ref (a 19) :: Value.ref (a 20) :: Value.ref (a 21) :: Value.ref (a 22) :: Value.ref (a 23) :: Value.int (q 24) :: Value.ref (a 25) :: Value.int (q 26) :: Value.ref (a 27) :: Value.int (q 28) :: Value.int (q 29) :: Value.int (q 30) :: Value.int (q 31) :: Value.int (q 32) :: Value.int (q 33) :: Value.ref (a 34) :: Value.ref (a 35) :: Value.ref (a 36) :: Value.ref (a 37) :: Value.ref (a 38) :: Value.ref (a 39) :: Value.ref (a 40) :: Value.int (q 41) :: Value.ref (a 42) :: Value.int (q 43) :: Value.int (q 44) :: []))), ((a 10), .inl (T 0, 24, .inl f10)), ((a 17), .inl (T 0, 24, .inl f17)), ((a 20), .inl (T 1, 672, .inr (.inl f20))), ((a 21), .inl (T 1, 672, .inr (.inl f21))), ((a 22), .inl (T 4, 672, .inl f22))] s.heap.size = A at hD ⊢
  have hA : ∀ q : Nat, s.heap.size ≤ q → A q := fun q h => by rw [← hAe]; exact Or.inr h
  have hS : va_S A s.heap s.heap [] := va_S.rf
  have hP : va_P D vwCl [(h0, .inr (10, (Value.int (q 0) :: Value.int (q 1) :: Value.int (q 2) :: Value.int (q 3) :: Value.int (q 4) :: Value.int (q 5) :: Value.int (q 6) :: Value.int (q 7) :: Value.ref (a 8) :: Value.ref (a 9) :: Value.ref (a 10) :: Value.ref (a 11) :: Value.ref (a 12) :: Value.ref (a 13) :: Value.int (q 14) :: Value.long v :: Value.long w :: Value.ref (a 17) :: Value.ref (a 18) :: Value.ref (a 19) :: Value.ref (a 20) :: Value.ref (a 21) :: Value.ref (a 22) :: Value.ref (a 23) :: Value.int (q 24) :: Value.ref (a 25) :: Value.int (q 26) :: Value.ref (a 27) :: Value.int (q 28) :: Value.int (q 29) :: Value.int (q 30) :: Value.int (q 31) :: Value.int (q 32) :: Value.int (q 33) :: Value.ref (a 34) :: Value.ref (a 35) :: Value.ref (a 36) :: Value.ref (a 37) :: Value.ref (a 38) :: Value.ref (a 39) :: Value.ref (a 40) :: Value.int (q 41) :: Value.ref (a 42) :: Value.int (q 43) :: Value.int (q 44) :: []))), ((a 10), .inl (T 0, 24, .inl f10)), ((a 17), .inl (T 0, 24, .inl f17)), ((a 20), .inl (T 1, 672, .inr (.inl f20))), ((a 21), .inl (T 1, 672, .inr (.inl f21))), ((a 22), .inl (T 4, 672, .inl f22))] s.heap := hP
  have hl := lv_entry ([.ref h0, .int x1, .int x2, .int x3]) (n := 9) (Nat.le_of_ble_eq_true rfl)
  rw [lg_entry_eq]
  generalize (lg_sl ([.ref h0, .int x1, .int x2, .int x3]) ++ List.replicate (9 - (lg_sl ([.ref h0, .int x1, .int x2, .int x3])).length) Slot.unset).toArray = ls at hl ⊢
  have hl : lv_has ls 9 [(0, .ref h0), (1, .int x1), (2, .int x2), (3, .int x3)] := hl
  clear hD0
  refine lv_aload_n hx hb dX13_takenAt_0 rfl (lv_at hl 0 rfl) ?_
  refine va_get (D := D) (ci := 10) (v := .ref (a 10)) (C := RX13) (T := TX13) (N := 45) hx hb hts in_X13_takenAt_X13 hown hE.1 hP 0 rfl rfl 10 (by decide +kernel) (hts (.fieldLink RX13 35 "ClauseBookModel" "one" "[I") (List.mem_of_getElem? (i := 1) rfl)) (fun _ h9 => h9) rfl dX13_takenAt_1 ?_
  refine lv_iload_n hx hb dX13_takenAt_4 rfl (lv_at hl 1 rfl) ?_
  refine va_iald hx hb hE.1 hP 1 0 rfl rfl (by rw [vp_in_iff]; first | omega | (subst_vars; omega)) dX13_takenAt_5 ?_
  refine lv_topi (fun z_1 ez_1 => ?_)
  refine lv_istore (lv' := [(4, .int z_1), (0, .ref h0), (1, .int x1), (2, .int x2), (3, .int x3)]) hx hb dX13_takenAt_6 hl (by decide +kernel) rfl (fun ls hl => ?_)
  have htz_1 : z_1.toInt = (f10 (x1.toNatClampNeg)).toInt := by rw [ez_1]
  refine lv_iload_n hx hb dX13_takenAt_8 rfl (lv_at hl 3 rfl) ?_
  refine lv_istore (lv' := [(5, .int x2), (4, .int z_1), (0, .ref h0), (1, .int x1), (2, .int x2), (3, .int x3)]) hx hb dX13_takenAt_9 hl (by decide +kernel) rfl (fun ls hl => ?_)
  refine loopW (σ := (Int32) × (Int32) × (Int64) × (Int64)) (fun x9 ls H locs => lv_has ls 9 [(5, .int x9.1), (4, .int z_1), (0, .ref h0), (1, .int x1), (2, .int x2), (3, .int x3)] ∧ va_P D vwCl [(h0, .inr (10, (Value.int (q 0) :: Value.int (q 1) :: Value.int (q 2) :: Value.int (q 3) :: Value.int (q 4) :: Value.int (q 5) :: Value.int (q 6) :: Value.int (q 7) :: Value.ref (a 8) :: Value.ref (a 9) :: Value.ref (a 10) :: Value.ref (a 11) :: Value.ref (a 12) :: Value.ref (a 13) :: Value.int x9.2.1 :: Value.long x9.2.2.1 :: Value.long x9.2.2.2 :: Value.ref (a 17) :: Value.ref (a 18) :: Value.ref (a 19) :: Value.ref (a 20) :: Value.ref (a 21) :: Value.ref (a 22) :: Value.ref (a 23) :: Value.int (q 24) :: Value.ref (a 25) :: Value.int (q 26) :: Value.ref (a 27) :: Value.int (q 28) :: Value.int (q 29) :: Value.int (q 30) :: Value.int (q 31) :: Value.int (q 32) :: Value.int (q 33) :: Value.ref (a 34) :: Value.ref (a 35) :: Value.ref (a 36) :: Value.ref (a 37) :: Value.ref (a 38) :: Value.ref (a 39) :: Value.ref (a 40) :: Value.int (q 41) :: Value.ref (a 42) :: Value.int (q 43) :: Value.int (q 44) :: []))), ((a 10), .inl (T 0, 24, .inl f10)), ((a 17), .inl (T 0, 24, .inl f17)), ((a 20), .inl (T 1, 672, .inr (.inl f20))), ((a 21), .inl (T 1, 672, .inr (.inl f21))), ((a 22), .inl (T 4, 672, .inl f22))] H ∧ va_D A [(h0, .inr (10, (Value.int (q 0) :: Value.int (q 1) :: Value.int (q 2) :: Value.int (q 3) :: Value.int (q 4) :: Value.int (q 5) :: Value.int (q 6) :: Value.int (q 7) :: Value.ref (a 8) :: Value.ref (a 9) :: Value.ref (a 10) :: Value.ref (a 11) :: Value.ref (a 12) :: Value.ref (a 13) :: Value.int x9.2.1 :: Value.long x9.2.2.1 :: Value.long x9.2.2.2 :: Value.ref (a 17) :: Value.ref (a 18) :: Value.ref (a 19) :: Value.ref (a 20) :: Value.ref (a 21) :: Value.ref (a 22) :: Value.ref (a 23) :: Value.int (q 24) :: Value.ref (a 25) :: Value.int (q 26) :: Value.ref (a 27) :: Value.int (q 28) :: Value.int (q 29) :: Value.int (q 30) :: Value.int (q 31) :: Value.int (q 32) :: Value.int (q 33) :: Value.ref (a 34) :: Value.ref (a 35) :: Value.ref (a 36) :: Value.ref (a 37) :: Value.ref (a 38) :: Value.ref (a 39) :: Value.ref (a 40) :: Value.int (q 41) :: Value.ref (a 42) :: Value.int (q 43) :: Value.int (q 44) :: []))), ((a 10), .inl (T 0, 24, .inl f10)), ((a 17), .inl (T 0, 24, .inl f17)), ((a 20), .inl (T 1, 672, .inr (.inl f20))), ((a 21), .inl (T 1, 672, .inr (.inl f21))), ((a 22), .inl (T 4, 672, .inl f22))] ∧ va_S A s.heap H locs ∧ ((x2.toInt ≤ x9.1.toInt ∧ x9.1.toInt ≤ 6) ∧ isB x9.2.1 ∧ (∀ s : Int32, x2.toInt ≤ s.toInt → s.toInt < x9.1.toInt → tkN (lqW (q 0) (q 1) (q 2) (q 3) (q 4) (q 5) (q 6)) f10 (tabW f20 f21 f22) x1 x3 s))) (fun x9 => (7 - x9.1.toInt).toNat) (fun x9 ls H locs hI ih => ?_) (x2, (q 14), v, w) ls ⟨lv_sub hl [0, 1, 2, 3, 4, 5] rfl, hP.sub [0, 1, 2, 3, 4, 5] rfl, hD.sub [0, 1, 2, 3, 4, 5] (by decide +kernel) rfl, hS, ⟨(by (try dsimp only); omega), hB, upto_0⟩⟩
  obtain ⟨tt, mm, vv, ww⟩ := x9
  obtain ⟨hl, hP, hD, hS, hinv⟩ := hI
  have hl : lv_has ls 9 [(5, .int tt), (4, .int z_1), (0, .ref h0), (1, .int x1), (2, .int x2), (3, .int x3)] := hl
  have hP : va_P D vwCl [(h0, .inr (10, (Value.int (q 0) :: Value.int (q 1) :: Value.int (q 2) :: Value.int (q 3) :: Value.int (q 4) :: Value.int (q 5) :: Value.int (q 6) :: Value.int (q 7) :: Value.ref (a 8) :: Value.ref (a 9) :: Value.ref (a 10) :: Value.ref (a 11) :: Value.ref (a 12) :: Value.ref (a 13) :: Value.int mm :: Value.long vv :: Value.long ww :: Value.ref (a 17) :: Value.ref (a 18) :: Value.ref (a 19) :: Value.ref (a 20) :: Value.ref (a 21) :: Value.ref (a 22) :: Value.ref (a 23) :: Value.int (q 24) :: Value.ref (a 25) :: Value.int (q 26) :: Value.ref (a 27) :: Value.int (q 28) :: Value.int (q 29) :: Value.int (q 30) :: Value.int (q 31) :: Value.int (q 32) :: Value.int (q 33) :: Value.ref (a 34) :: Value.ref (a 35) :: Value.ref (a 36) :: Value.ref (a 37) :: Value.ref (a 38) :: Value.ref (a 39) :: Value.ref (a 40) :: Value.int (q 41) :: Value.ref (a 42) :: Value.int (q 43) :: Value.int (q 44) :: []))), ((a 10), .inl (T 0, 24, .inl f10)), ((a 17), .inl (T 0, 24, .inl f17)), ((a 20), .inl (T 1, 672, .inr (.inl f20))), ((a 21), .inl (T 1, 672, .inr (.inl f21))), ((a 22), .inl (T 4, 672, .inl f22))] H := hP
  have hD : va_D A [(h0, .inr (10, (Value.int (q 0) :: Value.int (q 1) :: Value.int (q 2) :: Value.int (q 3) :: Value.int (q 4) :: Value.int (q 5) :: Value.int (q 6) :: Value.int (q 7) :: Value.ref (a 8) :: Value.ref (a 9) :: Value.ref (a 10) :: Value.ref (a 11) :: Value.ref (a 12) :: Value.ref (a 13) :: Value.int mm :: Value.long vv :: Value.long ww :: Value.ref (a 17) :: Value.ref (a 18) :: Value.ref (a 19) :: Value.ref (a 20) :: Value.ref (a 21) :: Value.ref (a 22) :: Value.ref (a 23) :: Value.int (q 24) :: Value.ref (a 25) :: Value.int (q 26) :: Value.ref (a 27) :: Value.int (q 28) :: Value.int (q 29) :: Value.int (q 30) :: Value.int (q 31) :: Value.int (q 32) :: Value.int (q 33) :: Value.ref (a 34) :: Value.ref (a 35) :: Value.ref (a 36) :: Value.ref (a 37) :: Value.ref (a 38) :: Value.ref (a 39) :: Value.ref (a 40) :: Value.int (q 41) :: Value.ref (a 42) :: Value.int (q 43) :: Value.int (q 44) :: []))), ((a 10), .inl (T 0, 24, .inl f10)), ((a 17), .inl (T 0, 24, .inl f17)), ((a 20), .inl (T 1, 672, .inr (.inl f20))), ((a 21), .inl (T 1, 672, .inr (.inl f21))), ((a 22), .inl (T 4, 672, .inl f22))] := hD
  have hinv : (x2.toInt ≤ tt.toInt ∧ tt.toInt ≤ 6) ∧ isB mm ∧ (∀ s : Int32, x2.toInt ≤ s.toInt → s.toInt < tt.toInt → tkN (lqW (q 0) (q 1) (q 2) (q 3) (q 4) (q 5) (q 6)) f10 (tabW f20 f21 f22) x1 x3 s) := hinv
  obtain ⟨htt, hBm, hno⟩ := hinv
  refine lv_iload hx hb dX13_takenAt_11 (lv_at hl 0 rfl) ?_
  refine lv_aload_n hx hb dX13_takenAt_13 rfl (lv_at hl 2 rfl) ?_
  refine va_get (D := D) (ci := 10) (v := .ref (a 17)) (C := RX13) (T := TX13) (N := 45) hx hb hts in_X13_takenAt_X13 hown hE.1 hP 0 rfl rfl 17 (by decide +kernel) (hts (.fieldLink RX13 47 "ClauseBookModel" "end" "[I") (List.mem_of_getElem? (i := 2) rfl)) (fun _ h9 => h9) rfl dX13_takenAt_14 ?_
  refine lv_iload hx hb dX13_takenAt_17 (lv_at hl 1 rfl) ?_
  refine va_iald hx hb hE.1 hP 2 0 rfl rfl (by rw [vp_in_iff]; first | omega | (subst_vars; omega)) dX13_takenAt_19 ?_
  refine lv_topi (fun z_2 ez_2 => ?_)
  have hzz_2 : z_2.toInt = (f17 ((f10 (x1.toNatClampNeg)).toNatClampNeg)).toInt := by rw [ez_2, ez_1]
  refine lv_icmp_ge (tgt := 121) hx hb dX13_takenAt_20 (by decide +kernel) (fun c_3 => ?_) (fun c_3 => ?_)
  · rw [fa_le] at c_3
    refine lv_aload_n hx hb dX13_takenAt_121 rfl (lv_at hl 2 rfl) ?_
    refine va_get (D := D) (ci := 10) (v := .ref (a 17)) (C := RX13) (T := TX13) (N := 45) hx hb hts in_X13_takenAt_X13 hown hE.1 hP 0 rfl rfl 17 (by decide +kernel) (hts (.fieldLink RX13 47 "ClauseBookModel" "end" "[I") (List.mem_of_getElem? (i := 2) rfl)) (fun _ h9 => h9) rfl dX13_takenAt_122 ?_
    refine lv_iload hx hb dX13_takenAt_125 (lv_at hl 1 rfl) ?_
    refine va_iald hx hb hE.1 hP 2 0 rfl rfl (by rw [vp_in_iff]; first | omega | (subst_vars; omega)) dX13_takenAt_127 ?_
    refine lv_topi (fun z_4 ez_4 => ?_)
    have hzz_4 : z_4.toInt = (f17 ((f10 (x1.toNatClampNeg)).toNatClampNeg)).toInt := by rw [ez_4, ez_1]
    exact W.iret hx hb hr (fun t ht hW => ⟨⟨_, (mm, vv, ww), rfl, ⟨(show isB mm from hBm), (show z_4.toInt = -5 ∨ (0 ≤ z_4.toInt ∧ z_4.toInt ≤ 6) from (Or.inr (by omega))), (show takQ (lqW (q 0) (q 1) (q 2) (q 3) (q 4) (q 5) (q 6)) f10 (tabW f20 f21 f22) (f17 ((f10 (x1.toNatClampNeg)).toNatClampNeg)).toInt x1 x3 x2 z_4 from (Or.inr ⟨(by omega), (by omega), (fun h9 => absurd h9 (by omega)), fun s h8 h9 => hno s h8 (by omega)⟩))⟩, by rw [ht]; exact hP.sub [0, 1, 2, 3, 4, 5] rfl, hD.sub [0, 1, 2, 3, 4, 5] (by decide +kernel) rfl⟩, hS.F ht⟩) hS.2.2 dX13_takenAt_128
  · rw [fa_le] at c_3
    refine lv_iload_n hx hb dX13_takenAt_23 rfl (lv_at hl 5 rfl) ?_
    refine lv_iload hx hb dX13_takenAt_24 (lv_at hl 0 rfl) ?_
    refine vp_callSi (W.runS (As := [.int x3, .int tt]) (rest := []) ⟨hx, hb, hml, hown, hts⟩ (c_X13_spotAt l D T x3 tt (by omega) (by omega)) (va_cwS 2 hts gX13_takenAt_X13_spotAt rfl rfl rfl hs_X13_spotAt ⟨Nat.le_of_ble_eq_true rfl, Nat.le_of_ble_eq_true rfl⟩) (pR_S hP hE [] rfl) rfl rfl hl.1 rfl (lv_room (Nat.le_of_ble_eq_true rfl)) dX13_takenAt_26 ⟨Nat.le_of_ble_eq_true rfl, Nat.le_of_ble_eq_true rfl⟩) (fun r_5 hr_5 => ?_)
    obtain rfl : (sp_bits (x3 &&& ((1 <<< (tt &&& 31)) - 1))) = r_5 := (hr_5).symm
    refine lv_topi (fun z_6 ez_6 => ?_)
    refine lv_istore (lv' := [(6, .int z_6), (5, .int tt), (4, .int z_1), (0, .ref h0), (1, .int x1), (2, .int x2), (3, .int x3)]) hx hb dX13_takenAt_29 hl (by decide +kernel) rfl (fun ls hl => ?_)
    have hsp9 : 0 ≤ z_6.toInt ∧ z_6.toInt ≤ tt.toInt := by rw [ez_6]; exact spot_in (by omega) (by omega)
    have ht := tri_in (d := tt.toInt) (by omega)
    have hsp8 : z_6 = spW x3 tt := ez_6
    refine lv_aload_n hx hb dX13_takenAt_31 rfl (lv_at hl 3 rfl) ?_
    refine lv_aload_n hx hb dX13_takenAt_32 rfl (lv_at hl 3 rfl) ?_
    refine lv_iload hx hb dX13_takenAt_33 (lv_at hl 2 rfl) ?_
    refine lv_iload hx hb dX13_takenAt_35 (lv_at hl 1 rfl) ?_
    refine lv_iload hx hb dX13_takenAt_37 (lv_at hl 0 rfl) ?_
    refine vp_callSi (W.runV (As := [.int z_1, .int tt, .int z_6]) (rest := [.ref h0]) ⟨hx, hb, hml, hown, hts⟩ (c_X13_isMuchAt l D T h0 [.int (q 0), .int (q 1), .int (q 2), .int (q 3), .int (q 4), .int (q 5), .int (q 6), .int (q 7), .ref (a 8), .ref (a 9), .ref (a 10), .ref (a 11), .ref (a 12), .ref (a 13), .int mm, .long vv, .long ww, .ref (a 17), .ref (a 18), .ref (a 19), .ref (a 20), .ref (a 21), .ref (a 22), .ref (a 23), .int (q 24), .ref (a 25), .int (q 26), .ref (a 27), .int (q 28), .int (q 29), .int (q 30), .int (q 31), .int (q 32), .int (q 33), .ref (a 34), .ref (a 35), .ref (a 36), .ref (a 37), .ref (a 38), .ref (a 39), .ref (a 40), .int (q 41), .ref (a 42), .int (q 43), .int (q 44)] (a 22) f22 z_1 tt z_6 rfl hZ (by omega) (by omega) (by omega)) (cwV 3 hts gX13_takenAt_X13_isMuchAt rfl rfl rfl hv_X13_isMuchAt ⟨Nat.le_of_ble_eq_true rfl, Nat.le_of_ble_eq_true rfl⟩) (pR_V (q := (RX13, TX13, 45)) (ci := 10) (q0 := 0) hP hE rfl rfl [0, 5] rfl) rfl rfl hl.1 rfl (lv_room (Nat.le_of_ble_eq_true rfl)) dX13_takenAt_39 ⟨Nat.le_of_ble_eq_true rfl, Nat.le_of_ble_eq_true rfl⟩) (fun r_7 hr_7 => ?_)
    refine va_put (D := D) (ci := 10) (v := .int r_7) (ty := .boolean) (C := RX13) (T := TX13) (N := 45) hx hb hts in_X13_takenAt_X13 tyX13 tyX13_ok nmX13 hown hE.1 hP hD hS 0 rfl rfl 14 (by decide +kernel) (hts (.fieldLink RX13 131 "ClauseBookModel" "isMuch" "Z") (List.mem_of_getElem? (i := 3) rfl)) (fun _ h9 => h9) rfl (by decide +kernel) (isB.nar hr_7.1) (isB.fits hr_7.1) (Nat.le_of_ble_eq_true rfl) dX13_takenAt_42 (fun H locs hP hD hS => ?_)
    obtain ⟨hP, hD⟩ := wPD [(h0, .inr (10, (Value.int (q 0) :: Value.int (q 1) :: Value.int (q 2) :: Value.int (q 3) :: Value.int (q 4) :: Value.int (q 5) :: Value.int (q 6) :: Value.int (q 7) :: Value.ref (a 8) :: Value.ref (a 9) :: Value.ref (a 10) :: Value.ref (a 11) :: Value.ref (a 12) :: Value.ref (a 13) :: Value.int r_7 :: Value.long vv :: Value.long ww :: Value.ref (a 17) :: Value.ref (a 18) :: Value.ref (a 19) :: Value.ref (a 20) :: Value.ref (a 21) :: Value.ref (a 22) :: Value.ref (a 23) :: Value.int (q 24) :: Value.ref (a 25) :: Value.int (q 26) :: Value.ref (a 27) :: Value.int (q 28) :: Value.int (q 29) :: Value.int (q 30) :: Value.int (q 31) :: Value.int (q 32) :: Value.int (q 33) :: Value.ref (a 34) :: Value.ref (a 35) :: Value.ref (a 36) :: Value.ref (a 37) :: Value.ref (a 38) :: Value.ref (a 39) :: Value.ref (a 40) :: Value.int (q 41) :: Value.ref (a 42) :: Value.int (q 43) :: Value.int (q 44) :: []))), ((a 10), .inl (T 0, 24, .inl f10)), ((a 17), .inl (T 0, 24, .inl f17)), ((a 20), .inl (T 1, 672, .inr (.inl f20))), ((a 21), .inl (T 1, 672, .inr (.inl f21))), ((a 22), .inl (T 4, 672, .inl f22))] hP hD rfl
    refine lv_aload_n hx hb dX13_takenAt_45 rfl (lv_at hl 3 rfl) ?_
    refine lv_iload_n hx hb dX13_takenAt_46 rfl (lv_at hl 4 rfl) ?_
    refine lv_iload hx hb dX13_takenAt_47 (lv_at hl 1 rfl) ?_
    refine lv_iload hx hb dX13_takenAt_49 (lv_at hl 0 rfl) ?_
    have hFc := va_free (wc := [(h0, .inr (10, (Value.int (q 0) :: Value.int (q 1) :: Value.int (q 2) :: Value.int (q 3) :: Value.int (q 4) :: Value.int (q 5) :: Value.int (q 6) :: Value.int (q 7) :: Value.ref (a 8) :: Value.ref (a 9) :: Value.ref (a 10) :: Value.ref (a 11) :: Value.ref (a 12) :: Value.ref (a 13) :: Value.int r_7 :: Value.long vv :: Value.long ww :: Value.ref (a 17) :: Value.ref (a 18) :: Value.ref (a 19) :: Value.ref (a 20) :: Value.ref (a 21) :: Value.ref (a 22) :: Value.ref (a 23) :: Value.int (q 24) :: Value.ref (a 25) :: Value.int (q 26) :: Value.ref (a 27) :: Value.int (q 28) :: Value.int (q 29) :: Value.int (q 30) :: Value.int (q 31) :: Value.int (q 32) :: Value.int (q 33) :: Value.ref (a 34) :: Value.ref (a 35) :: Value.ref (a 36) :: Value.ref (a 37) :: Value.ref (a 38) :: Value.ref (a 39) :: Value.ref (a 40) :: Value.int (q 41) :: Value.ref (a 42) :: Value.int (q 43) :: Value.int (q 44) :: []))), ((a 20), .inl (T 1, 672, .inr (.inl f20))), ((a 21), .inl (T 1, 672, .inr (.inl f21))), ((a 22), .inl (T 4, 672, .inl f22))]) hD hS hA [0, 3, 4, 5] rfl
    refine va_callv (va_runV (As := [.int x1, .int tt, .int z_6]) (rest := []) ⟨hx, hb, hml, hown, hts⟩ (c_X13_means l D T _ h0 (fun k => cond (Nat.beq k 14) r_7 (q k)) vv ww a f20 f21 f22 x1 tt z_6 (show isB r_7 from hr_7.1) (show ∀ j : Nat, isB (f22 j) from hZ) (show (1 ≤ (q 4).toInt ∧ (q 4).toInt ≤ 9) ∧ 1 ≤ (q 6).toInt ∧ (q 6).toInt ≤ 9 from (by omega)) (show 0 ≤ x1.toInt ∧ x1.toInt < 24 from (by omega)) (show 0 ≤ tt.toInt ∧ tt.toInt ≤ 5 from (by omega)) (show 0 ≤ z_6.toInt ∧ z_6.toInt ≤ tt.toInt from (by omega)) (show ∀ j : Nat, 28 * x1.toInt + tri (tt.toInt + 1) ≤ j → (j : Int) < 28 * x1.toInt + 28 → 1 ≤ (f21 j).toInt from (fun j _ h2 => hW1 j (by omega)))) (cwV 3 hts gX13_takenAt_X13_means rfl rfl rfl hv_X13_means ⟨Nat.le_of_ble_eq_true rfl, Nat.le_of_ble_eq_true rfl⟩) (pW_V (q := (RX13, TX13, 45)) (ci := 10) (q0 := 0) hP hE hD rfl rfl [0, 3, 4, 5] (by decide +kernel) rfl rfl) rfl rfl hl.1 rfl (lv_room (Nat.le_of_ble_eq_true rfl)) dX13_takenAt_51 ⟨Nat.le_of_ble_eq_true rfl, Nat.le_of_ble_eq_true rfl⟩) hS (fun q _ h => hFc q h) hFc (fun u_9 t H1 locs ht hvm hr_8 hB hz1 hk1 hS => ?_)
    obtain ⟨n_10, l_11, l_12⟩ := u_9
    obtain ⟨hi0_r_8, hi1_r_8, hi2_r_8, hi3_r_8⟩ := hr_8
    have hB14_r_8 : isB n_10 := hi0_r_8
    have hj1_r_8 : 1 ≤ l_12.toInt := hi1_r_8
    have hj2_r_8 : (r_7 : Int32).toInt = 0 → mpW n_10 l_11 l_12 = avgW (lqW (q 0) (q 1) (q 2) (q 3) (q 4) (q 5) (q 6)) (tabW f20 f21 f22) x1 tt z_6 := hi2_r_8
    have hj3_r_8 : (n_10 : Int32).toInt = 0 → (r_7 : Int32).toInt = 0 := hi3_r_8
    obtain ⟨hP1, hD1⟩ := hB
    rw [ht] at hP1
    obtain ⟨hP, hD⟩ := va_repl [(h0, .inr (10, (Value.int (q 0) :: Value.int (q 1) :: Value.int (q 2) :: Value.int (q 3) :: Value.int (q 4) :: Value.int (q 5) :: Value.int (q 6) :: Value.int (q 7) :: Value.ref (a 8) :: Value.ref (a 9) :: Value.ref (a 10) :: Value.ref (a 11) :: Value.ref (a 12) :: Value.ref (a 13) :: Value.int n_10 :: Value.long l_11 :: Value.long l_12 :: Value.ref (a 17) :: Value.ref (a 18) :: Value.ref (a 19) :: Value.ref (a 20) :: Value.ref (a 21) :: Value.ref (a 22) :: Value.ref (a 23) :: Value.int (q 24) :: Value.ref (a 25) :: Value.int (q 26) :: Value.ref (a 27) :: Value.int (q 28) :: Value.int (q 29) :: Value.int (q 30) :: Value.int (q 31) :: Value.int (q 32) :: Value.int (q 33) :: Value.ref (a 34) :: Value.ref (a 35) :: Value.ref (a 36) :: Value.ref (a 37) :: Value.ref (a 38) :: Value.ref (a 39) :: Value.ref (a 40) :: Value.int (q 41) :: Value.ref (a 42) :: Value.int (q 43) :: Value.int (q 44) :: []))), ((a 10), .inl (T 0, 24, .inl f10)), ((a 17), .inl (T 0, 24, .inl f17)), ((a 20), .inl (T 1, 672, .inr (.inl f20))), ((a 21), .inl (T 1, 672, .inr (.inl f21))), ((a 22), .inl (T 4, 672, .inl f22))] hP hD [0, 3, 4, 5] [0, 3, 4, 5] rfl (by decide +kernel) rfl rfl rfl hk1 hP1
    clear hP1 hD1 hFc
    generalize H1 = H at hP hS ⊢
    refine lv_aload_n hx hb dX13_takenAt_54 rfl (lv_at hl 3 rfl) ?_
    refine va_get (D := D) (ci := 10) (v := .int n_10) (C := RX13) (T := TX13) (N := 45) hx hb hts in_X13_takenAt_X13 hown hE.1 hP 0 rfl rfl 14 (by decide +kernel) (hts (.fieldLink RX13 131 "ClauseBookModel" "isMuch" "Z") (List.mem_of_getElem? (i := 3) rfl)) (fun _ h9 => h9) rfl dX13_takenAt_55 ?_
    refine lv_istore (lv' := [(7, .int n_10), (6, .int z_6), (5, .int tt), (4, .int z_1), (0, .ref h0), (1, .int x1), (2, .int x2), (3, .int x3)]) hx hb dX13_takenAt_58 hl (by decide +kernel) rfl (fun ls hl => ?_)
    refine lv_aload_n hx hb dX13_takenAt_60 rfl (lv_at hl 4 rfl) ?_
    refine lv_iconst (v := 0) hx hb dX13_takenAt_61 (by decide +kernel) ?_
    refine va_put (D := D) (ci := 10) (v := .int 0) (ty := .boolean) (C := RX13) (T := TX13) (N := 45) hx hb hts in_X13_takenAt_X13 tyX13 tyX13_ok nmX13 hown hE.1 hP hD hS 0 rfl rfl 14 (by decide +kernel) (hts (.fieldLink RX13 131 "ClauseBookModel" "isMuch" "Z") (List.mem_of_getElem? (i := 3) rfl)) (fun _ h9 => h9) rfl (by decide +kernel) rfl rfl (Nat.le_of_ble_eq_true rfl) dX13_takenAt_62 (fun H locs hP hD hS => ?_)
    obtain ⟨hP, hD⟩ := wPD [(h0, .inr (10, (Value.int (q 0) :: Value.int (q 1) :: Value.int (q 2) :: Value.int (q 3) :: Value.int (q 4) :: Value.int (q 5) :: Value.int (q 6) :: Value.int (q 7) :: Value.ref (a 8) :: Value.ref (a 9) :: Value.ref (a 10) :: Value.ref (a 11) :: Value.ref (a 12) :: Value.ref (a 13) :: Value.int 0 :: Value.long l_11 :: Value.long l_12 :: Value.ref (a 17) :: Value.ref (a 18) :: Value.ref (a 19) :: Value.ref (a 20) :: Value.ref (a 21) :: Value.ref (a 22) :: Value.ref (a 23) :: Value.int (q 24) :: Value.ref (a 25) :: Value.int (q 26) :: Value.ref (a 27) :: Value.int (q 28) :: Value.int (q 29) :: Value.int (q 30) :: Value.int (q 31) :: Value.int (q 32) :: Value.int (q 33) :: Value.ref (a 34) :: Value.ref (a 35) :: Value.ref (a 36) :: Value.ref (a 37) :: Value.ref (a 38) :: Value.ref (a 39) :: Value.ref (a 40) :: Value.int (q 41) :: Value.ref (a 42) :: Value.int (q 43) :: Value.int (q 44) :: []))), ((a 10), .inl (T 0, 24, .inl f10)), ((a 17), .inl (T 0, 24, .inl f17)), ((a 20), .inl (T 1, 672, .inr (.inl f20))), ((a 21), .inl (T 1, 672, .inr (.inl f21))), ((a 22), .inl (T 4, 672, .inl f22))] hP hD rfl
    refine lv_iload hx hb dX13_takenAt_65 (lv_at hl 0 rfl) ?_
    refine lv_if_eq (tgt := 73) hx hb dX13_takenAt_67 (by decide +kernel) (fun c_13 => ?_) (fun c_13 => ?_)
    · rw [fa_eq] at c_13
      try rw [ti_0] at c_13
      refine lv_iload hx hb dX13_takenAt_73 (lv_at hl 3 rfl) ?_
      refine lv_iload hx hb dX13_takenAt_75 (lv_at hl 2 rfl) ?_
      refine lv_iload hx hb dX13_takenAt_77 (lv_at hl 1 rfl) ?_
      refine vp_callSi (W.runS (As := [.int z_1, .int tt, .int z_6]) (rest := []) ⟨hx, hb, hml, hown, hts⟩ (c_X13_at l D T z_1 tt z_6 (by (try simp only [ti_0]); omega) (by (try simp only [ti_0]); omega) (by (try simp only [ti_0]); omega)) (va_cwS 3 hts gX13_takenAt_X13_at rfl rfl rfl hs_X13_at ⟨Nat.le_of_ble_eq_true rfl, Nat.le_of_ble_eq_true rfl⟩) (pR_S hP hE [] rfl) rfl rfl hl.1 rfl (lv_room (Nat.le_of_ble_eq_true rfl)) dX13_takenAt_79 ⟨Nat.le_of_ble_eq_true rfl, Nat.le_of_ble_eq_true rfl⟩) (fun r_14 hr_14 => ?_)
      refine lv_istore (lv' := [(8, .int r_14), (7, .int n_10), (6, .int z_6), (5, .int tt), (4, .int z_1), (0, .ref h0), (1, .int x1), (2, .int x2), (3, .int x3)]) hx hb dX13_takenAt_82 hl (by decide +kernel) rfl (fun ls hl => ?_)
      have hsl8 : r_14.toNatClampNeg = slN z_1 tt z_6 := at_sl (by omega) (by omega) (by omega) hr_14.1
      refine lv_aload_n hx hb dX13_takenAt_84 rfl (lv_at hl 5 rfl) ?_
      refine va_get (D := D) (ci := 10) (v := .ref (a 20)) (C := RX13) (T := TX13) (N := 45) hx hb hts in_X13_takenAt_X13 hown hE.1 hP 0 rfl rfl 20 (by decide +kernel) (hts (.fieldLink RX13 56 "ClauseBookModel" "worthAbove" "[J") (List.mem_of_getElem? (i := 4) rfl)) (fun _ h9 => h9) rfl dX13_takenAt_85 ?_
      refine lv_iload hx hb dX13_takenAt_88 (lv_at hl 0 rfl) ?_
      refine va_lald hx hb hE.1 hP 3 1 rfl rfl (by rw [vp_in_iff]; first | omega | (subst_vars; omega)) dX13_takenAt_90 ?_
      refine lv_topl (fun z_15 ez_15 => ?_)
      refine lv_aload_n hx hb dX13_takenAt_91 rfl (lv_at hl 5 rfl) ?_
      refine va_get (D := D) (ci := 10) (v := .ref (a 21)) (C := RX13) (T := TX13) (N := 45) hx hb hts in_X13_takenAt_X13 hown hE.1 hP 0 rfl rfl 21 (by decide +kernel) (hts (.fieldLink RX13 60 "ClauseBookModel" "worthBelow" "[J") (List.mem_of_getElem? (i := 5) rfl)) (fun _ h9 => h9) rfl dX13_takenAt_92 ?_
      refine lv_iload hx hb dX13_takenAt_95 (lv_at hl 0 rfl) ?_
      refine va_lald hx hb hE.1 hP 4 1 rfl rfl (by rw [vp_in_iff]; first | omega | (subst_vars; omega)) dX13_takenAt_97 ?_
      refine lv_topl (fun z_16 ez_16 => ?_)
      have hbz_16 : 1 ≤ z_16.toInt := by
        rw [ez_16]
        have h9 := tn (x := r_14) (by omega)
        exact hW1 _ (by omega)
      refine lv_aload_n hx hb dX13_takenAt_98 rfl (lv_at hl 5 rfl) ?_
      refine va_get (D := D) (ci := 10) (v := .long l_11) (C := RX13) (T := TX13) (N := 45) hx hb hts in_X13_takenAt_X13 hown hE.1 hP 0 rfl rfl 15 (by decide +kernel) (hts (.fieldLink RX13 145 "ClauseBookModel" "above" "J") (List.mem_of_getElem? (i := 6) rfl)) (fun _ h9 => h9) rfl dX13_takenAt_99 ?_
      refine lv_aload_n hx hb dX13_takenAt_102 rfl (lv_at hl 5 rfl) ?_
      refine va_get (D := D) (ci := 10) (v := .long l_12) (C := RX13) (T := TX13) (N := 45) hx hb hts in_X13_takenAt_X13 hown hE.1 hP 0 rfl rfl 16 (by decide +kernel) (hts (.fieldLink RX13 149 "ClauseBookModel" "below" "J") (List.mem_of_getElem? (i := 7) rfl)) (fun _ h9 => h9) rfl dX13_takenAt_103 ?_
      refine vp_callSi (W.runS (As := [.long z_15, .long z_16, .long l_11, .long l_12]) (rest := []) ⟨hx, hb, hml, hown, hts⟩ (cC_all l D T 127 z_15 z_16 l_11 l_12 (by omega) (by omega) (cmpT (by omega) (by omega))) (va_cwS 4 hts gX13_takenAt_X13_compared rfl rfl rfl hs_X13_compared ⟨Nat.le_of_ble_eq_true rfl, Nat.le_of_ble_eq_true rfl⟩) (pR_S hP hE [] rfl) rfl rfl hl.1 rfl (lv_room (Nat.le_of_ble_eq_true rfl)) dX13_takenAt_106 ⟨Nat.le_of_ble_eq_true rfl, Nat.le_of_ble_eq_true rfl⟩) (fun r_17 hr_17 => ?_)
      have hb9 : 1 ≤ (f21 (slN z_1 tt z_6)).toInt := hW1 _ (by have h8 := slN_b (c := z_1) (x := x1) (t := tt) (k := z_6) (by omega) ⟨⟨(by omega), (by omega)⟩, (by omega), (by omega)⟩; omega)
      have htk9 := tk_of (l := (lqW (q 0) (q 1) (q 2) (q 3) (q 4) (q 5) (q 6))) (p := x3) ez_1 hsp8 hr_7.2 hj2_r_8 hj3_r_8 (by omega) hb9 hj1_r_8 (show r_17.toInt = _ from by rw [hr_17, ez_15, ez_16, hsl8])
      refine lv_if_lt (tgt := 115) hx hb dX13_takenAt_109 (by decide +kernel) (fun c_18 => ?_) (fun c_18 => ?_)
      · rw [fa_lt] at c_18
        try rw [ti_0] at c_18
        obtain ⟨z_19, ez_19⟩ : ∃ y : Int32, y = tt + 1 := ⟨_, rfl⟩
        refine lv_iinc (v := z_19) (lv' := [(5, .int z_19), (8, .int r_14), (7, .int n_10), (6, .int z_6), (4, .int z_1), (0, .ref h0), (1, .int x1), (2, .int x2), (3, .int x3)]) hx hb dX13_takenAt_115 hl (k := 3) rfl (by rw [ez_19]; rfl) (by decide +kernel) rfl (fun ls hl => ?_)
        have hi9 : z_19.toInt = tt.toInt + 1 := by rw [ez_19]; exact inc1 (i := tt) (n := 1000) (by omega) (by decide +kernel)
        refine lv_goto (tgt := 11) hx hb dX13_takenAt_118 (by decide +kernel) ?_
        exact ih (z_19, 0, l_11, l_12) ls _ _ ⟨lv_sub hl [0, 4, 5, 6, 7, 8] rfl, hP.sub [0, 1, 2, 3, 4, 5] rfl, hD.sub [0, 1, 2, 3, 4, 5] (by decide +kernel) rfl, hS, ⟨(by (try dsimp only); omega), isB0, upto_step hno ⟨htk9.1, by rw [htk9.2]; omega⟩ hi9⟩⟩ (by (try dsimp only); omega)
      · rw [fa_lt] at c_18
        try rw [ti_0] at c_18
        refine lv_iload hx hb dX13_takenAt_112 (lv_at hl 3 rfl) ?_
        exact W.iret hx hb hr (fun t ht hW => ⟨⟨_, (0, l_11, l_12), rfl, ⟨(show isB 0 from isB0), (show tt.toInt = -5 ∨ (0 ≤ tt.toInt ∧ tt.toInt ≤ 6) from (Or.inr (by omega))), (show takQ (lqW (q 0) (q 1) (q 2) (q 3) (q 4) (q 5) (q 6)) f10 (tabW f20 f21 f22) (f17 ((f10 (x1.toNatClampNeg)).toNatClampNeg)).toInt x1 x3 x2 tt from (Or.inr ⟨(by omega), (by omega), (fun _ => ⟨htk9.1, by rw [htk9.2]; omega⟩), hno⟩))⟩, by rw [ht]; exact hP.sub [0, 1, 2, 3, 4, 5] rfl, hD.sub [0, 1, 2, 3, 4, 5] (by decide +kernel) rfl⟩, hS.F ht⟩) hS.2.2 dX13_takenAt_114
    · rw [fa_eq] at c_13
      try rw [ti_0] at c_13
      refine lv_bipush (v := (-5)) hx hb dX13_takenAt_70 (by decide +kernel) ?_
      exact W.iret hx hb hr (fun t ht hW => ⟨⟨_, (0, l_11, l_12), rfl, ⟨(show isB 0 from isB0), (show ((-5) : Int32).toInt = -5 ∨ (0 ≤ ((-5) : Int32).toInt ∧ ((-5) : Int32).toInt ≤ 6) from (Or.inl (by decide +kernel))), (show takQ (lqW (q 0) (q 1) (q 2) (q 3) (q 4) (q 5) (q 6)) f10 (tabW f20 f21 f22) (f17 ((f10 (x1.toNatClampNeg)).toNatClampNeg)).toInt x1 x3 x2 ((-5) : Int32) from (Or.inl ⟨(by decide +kernel), tt, (by omega), (by omega), tkM_y (l := (lqW (q 0) (q 1) (q 2) (q 3) (q 4) (q 5) (q 6))) (p := x3) ez_1 hsp8 hr_7.2 hj2_r_8 (by omega), hno⟩))⟩, by rw [ht]; exact hP.sub [0, 1, 2, 3, 4, 5] rfl, hD.sub [0, 1, 2, 3, 4, 5] (by decide +kernel) rfl⟩, hS.F ht⟩) hS.2.2 dX13_takenAt_72
theorem dX13_taken_0 : decode cX13_taken 0 = .ok (.aload_n 0, 1) := by decide +kernel
theorem dX13_taken_1 : decode cX13_taken 1 = .ok (.iload_n 1, 1) := by decide +kernel
theorem dX13_taken_12 : decode cX13_taken 12 = .ok (.iload_n 1, 1) := by decide +kernel
theorem dX13_taken_13 : decode cX13_taken 13 = .ok (.iaload, 1) := by decide +kernel
theorem dX13_taken_14 : decode cX13_taken 14 = .ok (.bipush 11, 2) := by decide +kernel
theorem dX13_taken_16 : decode cX13_taken 16 = .ok (.if_icmp .ne 22, 3) := by decide +kernel
theorem dX13_taken_19 : decode cX13_taken 19 = .ok (.iload_n 2, 1) := by decide +kernel
theorem dX13_taken_2 : decode cX13_taken 2 = .ok (.invokevirtual 233, 3) := by decide +kernel
theorem dX13_taken_20 : decode cX13_taken 20 = .ok (.i2l, 1) := by decide +kernel
theorem dX13_taken_21 : decode cX13_taken 21 = .ok (.lconst 0, 1) := by decide +kernel
theorem dX13_taken_22 : decode cX13_taken 22 = .ok (.ldc2_w 186, 3) := by decide +kernel
theorem dX13_taken_25 : decode cX13_taken 25 = .ok (.invokestatic 175, 3) := by decide +kernel
theorem dX13_taken_28 : decode cX13_taken 28 = .ok (.ifCond .eq 10, 3) := by decide +kernel
theorem dX13_taken_31 : decode cX13_taken 31 = .ok (.iload_n 3, 1) := by decide +kernel
theorem dX13_taken_32 : decode cX13_taken 32 = .ok (.invokestatic 198, 3) := by decide +kernel
theorem dX13_taken_35 : decode cX13_taken 35 = .ok (.ifCond .ne 6, 3) := by decide +kernel
theorem dX13_taken_38 : decode cX13_taken 38 = .ok (.bipush (-2), 2) := by decide +kernel
theorem dX13_taken_40 : decode cX13_taken 40 = .ok (.ireturn, 1) := by decide +kernel
theorem dX13_taken_41 : decode cX13_taken 41 = .ok (.aload_n 0, 1) := by decide +kernel
theorem dX13_taken_42 : decode cX13_taken 42 = .ok (.iload_n 1, 1) := by decide +kernel
theorem dX13_taken_43 : decode cX13_taken 43 = .ok (.invokevirtual 274, 3) := by decide +kernel
theorem dX13_taken_46 : decode cX13_taken 46 = .ok (.iload_n 2, 1) := by decide +kernel
theorem dX13_taken_47 : decode cX13_taken 47 = .ok (.aload_n 0, 1) := by decide +kernel
theorem dX13_taken_48 : decode cX13_taken 48 = .ok (.getfield 47, 3) := by decide +kernel
theorem dX13_taken_5 : decode cX13_taken 5 = .ok (.ifCond .eq 33, 3) := by decide +kernel
theorem dX13_taken_51 : decode cX13_taken 51 = .ok (.iload_n 1, 1) := by decide +kernel
theorem dX13_taken_52 : decode cX13_taken 52 = .ok (.iaload, 1) := by decide +kernel
theorem dX13_taken_53 : decode cX13_taken 53 = .ok (.if_icmp .le 8, 3) := by decide +kernel
theorem dX13_taken_56 : decode cX13_taken 56 = .ok (.bipush (-3), 2) := by decide +kernel
theorem dX13_taken_58 : decode cX13_taken 58 = .ok (.goto 10, 3) := by decide +kernel
theorem dX13_taken_61 : decode cX13_taken 61 = .ok (.aload_n 0, 1) := by decide +kernel
theorem dX13_taken_62 : decode cX13_taken 62 = .ok (.iload_n 1, 1) := by decide +kernel
theorem dX13_taken_63 : decode cX13_taken 63 = .ok (.iload_n 2, 1) := by decide +kernel
theorem dX13_taken_64 : decode cX13_taken 64 = .ok (.iload_n 3, 1) := by decide +kernel
theorem dX13_taken_65 : decode cX13_taken 65 = .ok (.invokevirtual 309, 3) := by decide +kernel
theorem dX13_taken_68 : decode cX13_taken 68 = .ok (.ireturn, 1) := by decide +kernel
theorem dX13_taken_8 : decode cX13_taken 8 = .ok (.aload_n 0, 1) := by decide +kernel
theorem dX13_taken_9 : decode cX13_taken 9 = .ok (.getfield 28, 3) := by decide +kernel
set_option maxRecDepth 20000 in
theorem ggX13_taken_X13_in : GoodIn wsX13_taken wsX13_in := goodIn_r _ [12] rfl (by decide +kernel)
set_option maxRecDepth 20000 in
theorem ggX13_taken_X13_isClause : GoodIn wsX13_taken wsX13_isClause := goodIn_r _ [8, 9, 10, 11, 7, 12, 127, 128, 129, 130, 131, 132, 133, 134, 135, 136, 137, 138, 139, 140, 141, 142, 143, 144, 145, 146, 147, 148, 149, 150, 151, 152, 153, 154, 155, 156, 157, 158, 159, 160, 161, 162, 163, 164, 165, 166, 167, 168, 169, 170, 171] rfl (by decide +kernel)
set_option maxRecDepth 20000 in
theorem ggX13_taken_X13_isPath : GoodIn wsX13_taken wsX13_isPath := goodIn_r _ [15, 16, 10, 11, 7, 12] rfl (by decide +kernel)
set_option maxRecDepth 40000 in
theorem ggX13_taken_X13_laysWorths_0 : GoodIn wsX13_taken [.code yX13_laysWorths cX13_laysWorths 6 none] := goodIn_r _ [20] rfl (by decide +kernel)
set_option maxRecDepth 40000 in
theorem ggX13_taken_X13_laysWorths_1 : GoodIn wsX13_taken wsX13_laysWorths_r1 := goodIn_r _ [21, 3, 22, 23, 24, 25, 26, 27, 28, 29, 7, 30, 9, 1, 31, 32, 33, 34, 35, 36, 37, 38, 39, 40] rfl (by decide +kernel)
set_option maxRecDepth 40000 in
theorem ggX13_taken_X13_laysWorths_2 : GoodIn wsX13_taken wsX13_laysWorths_r2 := goodIn_r _ [41, 42, 43, 44, 45, 46, 47, 48, 49, 50, 51, 52, 53, 54, 55, 56, 57, 58, 59, 60, 61, 62, 63, 64] rfl (by decide +kernel)
set_option maxRecDepth 40000 in
theorem ggX13_taken_X13_laysWorths_3 : GoodIn wsX13_taken wsX13_laysWorths_r3 := goodIn_r _ [65, 66, 67, 68, 69, 70, 71, 72, 73, 74, 75, 76, 77, 78, 79, 80, 81, 82, 83, 84, 85, 86, 87, 88] rfl (by decide +kernel)
set_option maxRecDepth 40000 in
theorem ggX13_taken_X13_laysWorths_4 : GoodIn wsX13_taken wsX13_laysWorths_r4 := goodIn_r _ [89, 90, 91, 92, 93, 94, 95, 96, 97, 98, 99, 100, 101, 102, 103, 104, 105, 106, 107, 108, 109, 110, 111, 112] rfl (by decide +kernel)
set_option maxRecDepth 40000 in
theorem ggX13_taken_X13_laysWorths_5 : GoodIn wsX13_taken wsX13_laysWorths_r5 := goodIn_r _ [113, 114, 115] rfl (by decide +kernel)
set_option maxRecDepth 40000 in
theorem ggX13_taken_X13_laysWorths_6 : GoodIn wsX13_taken wsX130 := goodIn_r _ [127, 128, 129, 130, 131, 132, 133, 134, 135, 136, 137, 138, 139, 140, 141, 142, 143, 144, 145, 146, 147, 148, 149, 150, 151, 152, 153, 154, 155, 156, 157, 158, 159, 160, 161, 162, 163, 164, 165, 166, 167, 168, 169, 170, 171] rfl (by decide +kernel)
set_option maxRecDepth 40000 in
theorem ggX13_taken_X13_laysWorths : GoodIn wsX13_taken wsX13_laysWorths := (goodIn_app ggX13_taken_X13_laysWorths_0 (goodIn_app (goodIn_app ggX13_taken_X13_laysWorths_1 (goodIn_app ggX13_taken_X13_laysWorths_2 (goodIn_app ggX13_taken_X13_laysWorths_3 (goodIn_app ggX13_taken_X13_laysWorths_4 ggX13_taken_X13_laysWorths_5)))) ggX13_taken_X13_laysWorths_6))
set_option maxRecDepth 40000 in
theorem ggX13_taken_X13_takenAt_0 : GoodIn wsX13_taken [.code yX13_takenAt cX13_takenAt 9 (some .int)] := goodIn_r _ [119] rfl (by decide +kernel)
set_option maxRecDepth 40000 in
theorem ggX13_taken_X13_takenAt_1 : GoodIn wsX13_taken wsX13_takenAt_r1 := goodIn_r _ [31, 3, 21, 23, 25, 24, 26, 120, 121, 7, 122, 123, 124, 125, 126, 22, 62, 63, 64, 104, 105, 106, 107, 108] rfl (by decide +kernel)
set_option maxRecDepth 40000 in
theorem ggX13_taken_X13_takenAt_2 : GoodIn wsX13_taken wsX13_takenAt_r2 := goodIn_r _ [109, 110, 111, 58, 59, 60, 61, 65, 66, 67, 68, 69, 70, 71, 72, 57, 73, 46, 47, 48, 49, 50, 51, 52] rfl (by decide +kernel)
set_option maxRecDepth 40000 in
theorem ggX13_taken_X13_takenAt_3 : GoodIn wsX13_taken wsX13_takenAt_r3 := goodIn_r _ [81, 82, 83, 84, 85, 86, 87, 88, 97, 98, 99, 100, 101, 102, 103] rfl (by decide +kernel)
set_option maxRecDepth 40000 in
theorem ggX13_taken_X13_takenAt_4 : GoodIn wsX13_taken wsX130 := goodIn_r _ [127, 128, 129, 130, 131, 132, 133, 134, 135, 136, 137, 138, 139, 140, 141, 142, 143, 144, 145, 146, 147, 148, 149, 150, 151, 152, 153, 154, 155, 156, 157, 158, 159, 160, 161, 162, 163, 164, 165, 166, 167, 168, 169, 170, 171] rfl (by decide +kernel)
set_option maxRecDepth 40000 in
theorem ggX13_taken_X13_takenAt : GoodIn wsX13_taken wsX13_takenAt := (goodIn_app ggX13_taken_X13_takenAt_0 (goodIn_app (goodIn_app ggX13_taken_X13_takenAt_1 (goodIn_app ggX13_taken_X13_takenAt_2 ggX13_taken_X13_takenAt_3)) ggX13_taken_X13_takenAt_4))
set_option maxRecDepth 20000 in
theorem gX13_taken_X13_in : GoodIn wsX13_taken (va_wsS RX13 175 yX13_in wsX13_in) := goodIn_app (goodIn_of _ (by decide +kernel)) ggX13_taken_X13_in
set_option maxRecDepth 20000 in
theorem gX13_taken_X13_isClause : GoodIn wsX13_taken (wsV RX13 233 RX13 yX13_isClause wsX13_isClause) := goodIn_app (goodIn_r _ [4, 5, 6, 7] rfl (by decide +kernel)) ggX13_taken_X13_isClause
set_option maxRecDepth 20000 in
theorem gX13_taken_X13_isPath : GoodIn wsX13_taken (va_wsS RX13 198 yX13_isPath wsX13_isPath) := goodIn_app (goodIn_of _ (by decide +kernel)) ggX13_taken_X13_isPath
set_option maxRecDepth 20000 in
theorem gX13_taken_X13_laysWorths : GoodIn wsX13_taken (wsV RX13 274 RX13 yX13_laysWorths wsX13_laysWorths) := goodIn_app (goodIn_r _ [17, 18, 19, 7] rfl (by decide +kernel)) ggX13_taken_X13_laysWorths
set_option maxRecDepth 20000 in
theorem gX13_taken_X13_takenAt : GoodIn wsX13_taken (wsV RX13 309 RX13 yX13_takenAt wsX13_takenAt) := goodIn_app (goodIn_r _ [116, 117, 118, 7] rfl (by decide +kernel)) ggX13_taken_X13_takenAt
theorem hv_X13_takenAt : yX13_takenAt.cls = RX13 ∧ yX13_takenAt.cls ≠ "java/lang/invoke/MethodHandle" ∧ yX13_takenAt.cls ≠ "java/lang/invoke/VarHandle" ∧ (parseMethodDescriptor yX13_takenAt.desc).map (fun d => d.parameters.length) = some 3 := by decide +kernel
set_option maxRecDepth 20000 in
theorem in_X13_taken_X13 : ∀ w ∈ wsX130, w ∈ wsX13_taken := sub_r [127, 128, 129, 130, 131, 132, 133, 134, 135, 136, 137, 138, 139, 140, 141, 142, 143, 144, 145, 146, 147, 148, 149, 150, 151, 152, 153, 154, 155, 156, 157, 158, 159, 160, 161, 162, 163, 164, 165, 166, 167, 168, 169, 170, 171] rfl
set_option maxHeartbeats 4000000 in
set_option maxRecDepth 100000 in
theorem c_X13_taken (l : Launch) (D : va_G) (T : Nat → ClassId) (sz : Nat) (h0 : Nat) (q : Nat → Int32) (v : Int64) (w : Int64) (a : Nat → Nat) (f8 : Nat → Int32) (f9 : Nat → Int32) (f10 : Nat → Int32) (f11 : Nat → Int32) (f17 : Nat → Int32) (f18 : Nat → Int32) (f19 : Nat → Int32) (f20 : Nat → Int64) (f21 : Nat → Int64) (f22 : Nat → Int32) (x1 : Int32) (x2 : Int32) (x3 : Int32) (hB : isB (q 14)) (hm : 0 ≤ (q 7).toInt ∧ (q 7).toInt ≤ 24) (hokR : okR f8 f10 f11) (hZ : ∀ j : Nat, isB (f22 j)) (hL : (1 ≤ (q 4).toInt ∧ (q 4).toInt ≤ 9) ∧ 1 ≤ (q 6).toInt ∧ (q 6).toInt ≤ 9) : Met l yX13_taken wsX13_taken ({ frames := 134, cells := 0, slots := 0, locals := 5283 }) (pW [.ref h0, .int x1, .int x2, .int x3] D T [(h0, .inr (10, (Value.int (q 0) :: Value.int (q 1) :: Value.int (q 2) :: Value.int (q 3) :: Value.int (q 4) :: Value.int (q 5) :: Value.int (q 6) :: Value.int (q 7) :: Value.ref (a 8) :: Value.ref (a 9) :: Value.ref (a 10) :: Value.ref (a 11) :: Value.ref (a 12) :: Value.ref (a 13) :: Value.int (q 14) :: Value.long v :: Value.long w :: Value.ref (a 17) :: Value.ref (a 18) :: Value.ref (a 19) :: Value.ref (a 20) :: Value.ref (a 21) :: Value.ref (a 22) :: Value.ref (a 23) :: Value.int (q 24) :: Value.ref (a 25) :: Value.int (q 26) :: Value.ref (a 27) :: Value.int (q 28) :: Value.int (q 29) :: Value.int (q 30) :: Value.int (q 31) :: Value.int (q 32) :: Value.int (q 33) :: Value.ref (a 34) :: Value.ref (a 35) :: Value.ref (a 36) :: Value.ref (a 37) :: Value.ref (a 38) :: Value.ref (a 39) :: Value.ref (a 40) :: Value.int (q 41) :: Value.ref (a 42) :: Value.int (q 43) :: Value.int (q 44) :: []))), ((a 8), .inl (T 0, 24, .inl f8)), ((a 9), .inl (T 0, 24, .inl f9)), ((a 10), .inl (T 0, 24, .inl f10)), ((a 11), .inl (T 0, 24, .inl f11)), ((a 17), .inl (T 0, 24, .inl f17)), ((a 18), .inl (T 0, 24, .inl f18)), ((a 19), .inl (T 0, 24, .inl f19)), ((a 20), .inl (T 1, 672, .inr (.inl f20))), ((a 21), .inl (T 1, 672, .inr (.inl f21))), ((a 22), .inl (T 4, 672, .inl f22))] sz) (va_Qi (fun (r : Int32) (u : (Int32) × (Int64) × (Int64) × (Nat → Int32) × (Nat → Int32) × (Nat → Int32) × (Nat → Int64) × (Nat → Int64) × (Nat → Int32)) => (isB u.1) ∧ (∀ j : Nat, isB (u.2.2.2.2.2.2.2.2 j)) ∧ (hadV (q 7) x1 x2 x3 ∧ (f8 (x1.toNatClampNeg)).toNatClampNeg = 11 → ∀ j : Nat, (j : Int) < (q 7).toInt → mesP f8 f9 f10 f11 u.2.2.2.1 u.2.2.2.2.1 u.2.2.2.2.2.1 j) ∧ (tkQ (lqW (q 0) (q 1) (q 2) (q 3) (q 4) (q 5) (q 6)) f8 f10 u.2.2.2.1 (VALW (lqW (q 0) (q 1) (q 2) (q 3) (q 4) (q 5) (q 6)) f8 f9 f10 f11 u.2.2.2.1) (q 7) x1 x2 x3 r)) (bW D (va_A [(h0, .inr (10, (Value.int (q 0) :: Value.int (q 1) :: Value.int (q 2) :: Value.int (q 3) :: Value.int (q 4) :: Value.int (q 5) :: Value.int (q 6) :: Value.int (q 7) :: Value.ref (a 8) :: Value.ref (a 9) :: Value.ref (a 10) :: Value.ref (a 11) :: Value.ref (a 12) :: Value.ref (a 13) :: Value.int (q 14) :: Value.long v :: Value.long w :: Value.ref (a 17) :: Value.ref (a 18) :: Value.ref (a 19) :: Value.ref (a 20) :: Value.ref (a 21) :: Value.ref (a 22) :: Value.ref (a 23) :: Value.int (q 24) :: Value.ref (a 25) :: Value.int (q 26) :: Value.ref (a 27) :: Value.int (q 28) :: Value.int (q 29) :: Value.int (q 30) :: Value.int (q 31) :: Value.int (q 32) :: Value.int (q 33) :: Value.ref (a 34) :: Value.ref (a 35) :: Value.ref (a 36) :: Value.ref (a 37) :: Value.ref (a 38) :: Value.ref (a 39) :: Value.ref (a 40) :: Value.int (q 41) :: Value.ref (a 42) :: Value.int (q 43) :: Value.int (q 44) :: []))), ((a 8), .inl (T 0, 24, .inl f8)), ((a 9), .inl (T 0, 24, .inl f9)), ((a 10), .inl (T 0, 24, .inl f10)), ((a 11), .inl (T 0, 24, .inl f11)), ((a 17), .inl (T 0, 24, .inl f17)), ((a 18), .inl (T 0, 24, .inl f18)), ((a 19), .inl (T 0, 24, .inl f19)), ((a 20), .inl (T 1, 672, .inr (.inl f20))), ((a 21), .inl (T 1, 672, .inr (.inl f21))), ((a 22), .inl (T 4, 672, .inl f22))] sz) (fun (u : (Int32) × (Int64) × (Int64) × (Nat → Int32) × (Nat → Int32) × (Nat → Int32) × (Nat → Int64) × (Nat → Int64) × (Nat → Int32)) => [(h0, .inr (10, (Value.int (q 0) :: Value.int (q 1) :: Value.int (q 2) :: Value.int (q 3) :: Value.int (q 4) :: Value.int (q 5) :: Value.int (q 6) :: Value.int (q 7) :: Value.ref (a 8) :: Value.ref (a 9) :: Value.ref (a 10) :: Value.ref (a 11) :: Value.ref (a 12) :: Value.ref (a 13) :: Value.int u.1 :: Value.long u.2.1 :: Value.long u.2.2.1 :: Value.ref (a 17) :: Value.ref (a 18) :: Value.ref (a 19) :: Value.ref (a 20) :: Value.ref (a 21) :: Value.ref (a 22) :: Value.ref (a 23) :: Value.int (q 24) :: Value.ref (a 25) :: Value.int (q 26) :: Value.ref (a 27) :: Value.int (q 28) :: Value.int (q 29) :: Value.int (q 30) :: Value.int (q 31) :: Value.int (q 32) :: Value.int (q 33) :: Value.ref (a 34) :: Value.ref (a 35) :: Value.ref (a 36) :: Value.ref (a 37) :: Value.ref (a 38) :: Value.ref (a 39) :: Value.ref (a 40) :: Value.int (q 41) :: Value.ref (a 42) :: Value.int (q 43) :: Value.int (q 44) :: []))), ((a 8), .inl (T 0, 24, .inl f8)), ((a 9), .inl (T 0, 24, .inl f9)), ((a 10), .inl (T 0, 24, .inl f10)), ((a 11), .inl (T 0, 24, .inl f11)), ((a 17), .inl (T 0, 24, .inl u.2.2.2.1)), ((a 18), .inl (T 0, 24, .inl u.2.2.2.2.1)), ((a 19), .inl (T 0, 24, .inl u.2.2.2.2.2.1)), ((a 20), .inl (T 1, 672, .inr (.inl u.2.2.2.2.2.2.1))), ((a 21), .inl (T 1, 672, .inr (.inl u.2.2.2.2.2.2.2.1))), ((a 22), .inl (T 4, 672, .inl u.2.2.2.2.2.2.2.2))])) (va_A [(h0, .inr (10, (Value.int (q 0) :: Value.int (q 1) :: Value.int (q 2) :: Value.int (q 3) :: Value.int (q 4) :: Value.int (q 5) :: Value.int (q 6) :: Value.int (q 7) :: Value.ref (a 8) :: Value.ref (a 9) :: Value.ref (a 10) :: Value.ref (a 11) :: Value.ref (a 12) :: Value.ref (a 13) :: Value.int (q 14) :: Value.long v :: Value.long w :: Value.ref (a 17) :: Value.ref (a 18) :: Value.ref (a 19) :: Value.ref (a 20) :: Value.ref (a 21) :: Value.ref (a 22) :: Value.ref (a 23) :: Value.int (q 24) :: Value.ref (a 25) :: Value.int (q 26) :: Value.ref (a 27) :: Value.int (q 28) :: Value.int (q 29) :: Value.int (q 30) :: Value.int (q 31) :: Value.int (q 32) :: Value.int (q 33) :: Value.ref (a 34) :: Value.ref (a 35) :: Value.ref (a 36) :: Value.ref (a 37) :: Value.ref (a 38) :: Value.ref (a 39) :: Value.ref (a 40) :: Value.int (q 41) :: Value.ref (a 42) :: Value.int (q 43) :: Value.int (q 44) :: []))), ((a 8), .inl (T 0, 24, .inl f8)), ((a 9), .inl (T 0, 24, .inl f9)), ((a 10), .inl (T 0, 24, .inl f10)), ((a 11), .inl (T 0, 24, .inl f11)), ((a 17), .inl (T 0, 24, .inl f17)), ((a 18), .inl (T 0, 24, .inl f18)), ((a 19), .inl (T 0, 24, .inl f19)), ((a 20), .inl (T 1, 672, .inr (.inl f20))), ((a 21), .inl (T 1, 672, .inr (.inl f21))), ((a 22), .inl (T 4, 672, .inl f22))] sz)) 0 0 (va_A [(h0, .inr (10, (Value.int (q 0) :: Value.int (q 1) :: Value.int (q 2) :: Value.int (q 3) :: Value.int (q 4) :: Value.int (q 5) :: Value.int (q 6) :: Value.int (q 7) :: Value.ref (a 8) :: Value.ref (a 9) :: Value.ref (a 10) :: Value.ref (a 11) :: Value.ref (a 12) :: Value.ref (a 13) :: Value.int (q 14) :: Value.long v :: Value.long w :: Value.ref (a 17) :: Value.ref (a 18) :: Value.ref (a 19) :: Value.ref (a 20) :: Value.ref (a 21) :: Value.ref (a 22) :: Value.ref (a 23) :: Value.int (q 24) :: Value.ref (a 25) :: Value.int (q 26) :: Value.ref (a 27) :: Value.int (q 28) :: Value.int (q 29) :: Value.int (q 30) :: Value.int (q 31) :: Value.int (q 32) :: Value.int (q 33) :: Value.ref (a 34) :: Value.ref (a 35) :: Value.ref (a 36) :: Value.ref (a 37) :: Value.ref (a 38) :: Value.ref (a 39) :: Value.ref (a 40) :: Value.int (q 41) :: Value.ref (a 42) :: Value.int (q 43) :: Value.int (q 44) :: []))), ((a 8), .inl (T 0, 24, .inl f8)), ((a 9), .inl (T 0, 24, .inl f9)), ((a 10), .inl (T 0, 24, .inl f10)), ((a 11), .inl (T 0, 24, .inl f11)), ((a 17), .inl (T 0, 24, .inl f17)), ((a 18), .inl (T 0, 24, .inl f18)), ((a 19), .inl (T 0, 24, .inl f19)), ((a 20), .inl (T 1, 672, .inr (.inl f20))), ((a 21), .inl (T 1, 672, .inr (.inl f21))), ((a 22), .inl (T 4, 672, .inl f22))] sz) := by
  refine Met.ofW (cc := cX13_taken) (maxL := 4) (ret := (some .int)) (by decide +kernel) rfl ?_
  intro p e s m args below meth c s₁ B hml hv
  obtain ⟨rfl, hsz, hP, hE, hD0⟩ := hv
  have hx := B.exec
  have hb := B.bytes
  have hr := B.returns
  have hts := atoms_spec (ws := wsX13_taken) B.pre
  have hown : s.vm.findClass RX13 = some m.cls := findClass_of_methodNamed B.named
  have hlocks := B.notSynchronized
  subst hsz
  have hD := hD0.self (sz := s.heap.size)
  generalize hAe : va_A [(h0, .inr (10, (Value.int (q 0) :: Value.int (q 1) :: Value.int (q 2) :: Value.int (q 3) :: Value.int (q 4) :: Value.int (q 5) :: Value.int (q 6) :: Value.int (q 7) :: Value.ref (a 8) :: Value.ref (a 9) :: Value.ref (a 10) :: Value.ref (a 11) :: Value.ref (a 12) :: Value.ref (a 13) :: Value.int (q 14) :: Value.long v :: Value.long w :: Value.ref (a 17) :: Value.ref (a 18) :: Value.ref (a 19) :: Value.ref (a 20) :: Value.ref (a 21) :: Value.ref (a 22) :: Value.ref (a 23) :: Value.int (q 24) :: Value.ref (a 25) :: Value.int (q 26) :: Value.ref (a 27) :: Value.int (q 28) :: Value.int (q 29) :: Value.int (q 30) :: Value.int (q 31) :: Value.int (q 32) :: Value.int (q 33) :: Value.ref (a 34) :: Value.ref (a 35) :: Value.ref (a 36) :: Value.ref (a 37) :: Value.ref (a 38) :: Value.ref (a 39) :: Value.ref (a 40) :: Value.int (q 41) :: Value.ref (a 42) :: Value.int (q 43) :: Value.int (q 44) :: []))), ((a 8), .inl (T 0, 24, .inl f8)), ((a 9), .inl (T 0, 24, .inl f9)), ((a 10), .inl (T 0, 24, .inl f10)), ((a 11), .inl (T 0, 24, .inl f11)), ((a 17), .inl (T 0, 24, .inl f17)), ((a 18), .inl (T 0, 24, .inl f18)), ((a 19), .inl (T 0, 24, .inl f19)), ((a 20), .inl (T 1, 672, .inr (.inl f20))), ((a 21), .inl (T 1, 672, .inr (.inl f21))), ((a 22), .inl (T 4, 672, .inl f22))] s.heap.size = A at hD ⊢
  have hA : ∀ q : Nat, s.heap.size ≤ q → A q := fun q h => by rw [← hAe]; exact Or.inr h
  have hS : va_S A s.heap s.heap [] := va_S.rf
  have hP : va_P D vwCl [(h0, .inr (10, (Value.int (q 0) :: Value.int (q 1) :: Value.int (q 2) :: Value.int (q 3) :: Value.int (q 4) :: Value.int (q 5) :: Value.int (q 6) :: Value.int (q 7) :: Value.ref (a 8) :: Value.ref (a 9) :: Value.ref (a 10) :: Value.ref (a 11) :: Value.ref (a 12) :: Value.ref (a 13) :: Value.int (q 14) :: Value.long v :: Value.long w :: Value.ref (a 17) :: Value.ref (a 18) :: Value.ref (a 19) :: Value.ref (a 20) :: Value.ref (a 21) :: Value.ref (a 22) :: Value.ref (a 23) :: Value.int (q 24) :: Value.ref (a 25) :: Value.int (q 26) :: Value.ref (a 27) :: Value.int (q 28) :: Value.int (q 29) :: Value.int (q 30) :: Value.int (q 31) :: Value.int (q 32) :: Value.int (q 33) :: Value.ref (a 34) :: Value.ref (a 35) :: Value.ref (a 36) :: Value.ref (a 37) :: Value.ref (a 38) :: Value.ref (a 39) :: Value.ref (a 40) :: Value.int (q 41) :: Value.ref (a 42) :: Value.int (q 43) :: Value.int (q 44) :: []))), ((a 8), .inl (T 0, 24, .inl f8)), ((a 9), .inl (T 0, 24, .inl f9)), ((a 10), .inl (T 0, 24, .inl f10)), ((a 11), .inl (T 0, 24, .inl f11)), ((a 17), .inl (T 0, 24, .inl f17)), ((a 18), .inl (T 0, 24, .inl f18)), ((a 19), .inl (T 0, 24, .inl f19)), ((a 20), .inl (T 1, 672, .inr (.inl f20))), ((a 21), .inl (T 1, 672, .inr (.inl f21))), ((a 22), .inl (T 4, 672, .inl f22))] s.heap := hP
  have hl := lv_entry ([.ref h0, .int x1, .int x2, .int x3]) (n := 4) (Nat.le_of_ble_eq_true rfl)
  rw [lg_entry_eq]
  generalize (lg_sl ([.ref h0, .int x1, .int x2, .int x3]) ++ List.replicate (4 - (lg_sl ([.ref h0, .int x1, .int x2, .int x3])).length) Slot.unset).toArray = ls at hl ⊢
  have hl : lv_has ls 4 [(0, .ref h0), (1, .int x1), (2, .int x2), (3, .int x3)] := hl
  clear hD0
  refine lv_aload_n hx hb dX13_taken_0 rfl (lv_at hl 0 rfl) ?_
  refine lv_iload_n hx hb dX13_taken_1 rfl (lv_at hl 1 rfl) ?_
  refine vp_callSi (W.runV (As := [.int x1]) (rest := []) ⟨hx, hb, hml, hown, hts⟩ (c_X13_isClause l D T h0 [.int (q 0), .int (q 1), .int (q 2), .int (q 3), .int (q 4), .int (q 5), .int (q 6), .int (q 7), .ref (a 8), .ref (a 9), .ref (a 10), .ref (a 11), .ref (a 12), .ref (a 13), .int (q 14), .long v, .long w, .ref (a 17), .ref (a 18), .ref (a 19), .ref (a 20), .ref (a 21), .ref (a 22), .ref (a 23), .int (q 24), .ref (a 25), .int (q 26), .ref (a 27), .int (q 28), .int (q 29), .int (q 30), .int (q 31), .int (q 32), .int (q 33), .ref (a 34), .ref (a 35), .ref (a 36), .ref (a 37), .ref (a 38), .ref (a 39), .ref (a 40), .int (q 41), .ref (a 42), .int (q 43), .int (q 44)] x1 (q 7) rfl (by omega)) (cwV 1 hts gX13_taken_X13_isClause rfl rfl rfl hv_X13_isClause ⟨Nat.le_of_ble_eq_true rfl, Nat.le_of_ble_eq_true rfl⟩) (pR_V (q := (RX13, TX13, 45)) (ci := 10) (q0 := 0) hP hE rfl rfl [0] rfl) rfl rfl hl.1 rfl (lv_room (Nat.le_of_ble_eq_true rfl)) dX13_taken_2 ⟨Nat.le_of_ble_eq_true rfl, Nat.le_of_ble_eq_true rfl⟩) (fun r_1 hr_1 => ?_)
  rcases bool_post hr_1 with ⟨c_2, rfl⟩ | ⟨c_2, rfl⟩
  · refine lv_if_eq (tgt := 38) hx hb dX13_taken_5 (by decide +kernel) (fun c9 => absurd c9 (by decide +kernel)) (fun _ => ?_)
    refine lv_aload_n hx hb dX13_taken_8 rfl (lv_at hl 0 rfl) ?_
    refine va_get (D := D) (ci := 10) (v := .ref (a 8)) (C := RX13) (T := TX13) (N := 45) hx hb hts in_X13_taken_X13 hown hE.1 hP 0 rfl rfl 8 (by decide +kernel) (hts (.fieldLink RX13 28 "ClauseBookModel" "kind" "[I") (List.mem_of_getElem? (i := 1) rfl)) (fun _ h9 => h9) rfl dX13_taken_9 ?_
    refine lv_iload_n hx hb dX13_taken_12 rfl (lv_at hl 1 rfl) ?_
    refine va_iald hx hb hE.1 hP 1 0 rfl rfl (by rw [vp_in_iff]; first | omega | (subst_vars; omega)) dX13_taken_13 ?_
    refine lv_topi (fun z_3 ez_3 => ?_)
    have htz_3 : z_3.toInt = (f8 (x1.toNatClampNeg)).toInt := by rw [ez_3]
    have hJ := (in24 (x := x1) (by omega))
    have tk9 := tn (x := f8 (x1.toNatClampNeg)) (hokR _ hJ.1).1.1
    refine lv_bipush (v := 11) hx hb dX13_taken_14 (by decide +kernel) ?_
    refine lv_icmp_ne (tgt := 38) hx hb dX13_taken_16 (by decide +kernel) (fun c_4 => ?_) (fun c_4 => ?_)
    · rw [fa_eq] at c_4
      try rw [ti_11] at c_4
      refine lv_bipush (v := (-2)) hx hb dX13_taken_38 (by decide +kernel) ?_
      exact W.iret hx hb hr (fun t ht hW => ⟨⟨_, ((q 14), v, w, f17, f18, f19, f20, f21, f22), rfl, ⟨(show isB (q 14) from hB), (show ∀ j : Nat, isB (f22 j) from hZ), (show hadV (q 7) x1 x2 x3 ∧ (f8 (x1.toNatClampNeg)).toNatClampNeg = 11 → ∀ j : Nat, (j : Int) < (q 7).toInt → mesP f8 f9 f10 f11 f17 f18 f19 j from (fun h9 => by exfalso; obtain ⟨⟨h1, h2, h3⟩, h4⟩ := h9; omega)), (show tkQ (lqW (q 0) (q 1) (q 2) (q 3) (q 4) (q 5) (q 6)) f8 f10 f17 (VALW (lqW (q 0) (q 1) (q 2) (q 3) (q 4) (q 5) (q 6)) f8 f9 f10 f11 f17) (q 7) x1 x2 x3 ((-2) : Int32) from (Or.inl ⟨(fun h9 => by obtain ⟨⟨h1, h2, h3⟩, h4⟩ := h9; omega), (by decide +kernel)⟩))⟩, by rw [ht]; exact hP.sub [0, 1, 2, 3, 4, 5, 6, 7, 8, 9, 10] rfl, hD.sub [0, 1, 2, 3, 4, 5, 6, 7, 8, 9, 10] (by decide +kernel) rfl⟩, hS.F ht⟩) hS.2.2 dX13_taken_40
    · rw [fa_eq] at c_4
      try rw [ti_11] at c_4
      refine lv_iload_n hx hb dX13_taken_19 rfl (lv_at hl 2 rfl) ?_
      refine lv_i2l hx hb dX13_taken_20 rfl ?_
      refine lv_lconst (v := 0) hx hb dX13_taken_21 (by decide +kernel) ?_
      refine lv_ldc2 (v := 6) hx hb hown (hts (.constantLong RX13 186 (6)) (List.mem_of_getElem? (i := 2) rfl)) dX13_taken_22 ?_
      refine vp_callSi (W.runS (As := [.long (x2.toInt64), .long 0, .long 6]) (rest := []) ⟨hx, hb, hml, hown, hts⟩ (c_X13_in l D T (x2.toInt64) 0 6 x2.toInt 0 6 ((Int32.toInt_toInt64 _).trans rfl) (by decide +kernel) (by decide +kernel)) (va_cwS 3 hts gX13_taken_X13_in rfl rfl rfl hs_X13_in ⟨Nat.le_of_ble_eq_true rfl, Nat.le_of_ble_eq_true rfl⟩) (pR_S hP hE [] rfl) rfl rfl hl.1 rfl (lv_room (Nat.le_of_ble_eq_true rfl)) dX13_taken_25 ⟨Nat.le_of_ble_eq_true rfl, Nat.le_of_ble_eq_true rfl⟩) (fun r_5 hr_5 => ?_)
      rcases bool_post hr_5 with ⟨c_6, rfl⟩ | ⟨c_6, rfl⟩
      · refine lv_if_eq (tgt := 38) hx hb dX13_taken_28 (by decide +kernel) (fun c9 => absurd c9 (by decide +kernel)) (fun _ => ?_)
        refine lv_iload_n hx hb dX13_taken_31 rfl (lv_at hl 3 rfl) ?_
        refine vp_callSi (W.runS (As := [.int x3]) (rest := []) ⟨hx, hb, hml, hown, hts⟩ (c_X13_isPath l D T x3) (va_cwS 1 hts gX13_taken_X13_isPath rfl rfl rfl hs_X13_isPath ⟨Nat.le_of_ble_eq_true rfl, Nat.le_of_ble_eq_true rfl⟩) (pR_S hP hE [] rfl) rfl rfl hl.1 rfl (lv_room (Nat.le_of_ble_eq_true rfl)) dX13_taken_32 ⟨Nat.le_of_ble_eq_true rfl, Nat.le_of_ble_eq_true rfl⟩) (fun r_7 hr_7 => ?_)
        rcases bool_post hr_7 with ⟨c_8, rfl⟩ | ⟨c_8, rfl⟩
        · refine lv_if_ne (tgt := 41) hx hb dX13_taken_35 (by decide +kernel) (fun _ => ?_) (fun c9 => absurd c9 (by decide +kernel))
          refine lv_aload_n hx hb dX13_taken_41 rfl (lv_at hl 0 rfl) ?_
          refine lv_iload_n hx hb dX13_taken_42 rfl (lv_at hl 1 rfl) ?_
          have hn9 := nm_late (z := f8 (x1.toNatClampNeg)) (by omega)
          have hc8 := (hokR _ hJ.1).2.1 (by omega)
          have hFc := va_free (wc := [(h0, .inr (10, (Value.int (q 0) :: Value.int (q 1) :: Value.int (q 2) :: Value.int (q 3) :: Value.int (q 4) :: Value.int (q 5) :: Value.int (q 6) :: Value.int (q 7) :: Value.ref (a 8) :: Value.ref (a 9) :: Value.ref (a 10) :: Value.ref (a 11) :: Value.ref (a 12) :: Value.ref (a 13) :: Value.int (q 14) :: Value.long v :: Value.long w :: Value.ref (a 17) :: Value.ref (a 18) :: Value.ref (a 19) :: Value.ref (a 20) :: Value.ref (a 21) :: Value.ref (a 22) :: Value.ref (a 23) :: Value.int (q 24) :: Value.ref (a 25) :: Value.int (q 26) :: Value.ref (a 27) :: Value.int (q 28) :: Value.int (q 29) :: Value.int (q 30) :: Value.int (q 31) :: Value.int (q 32) :: Value.int (q 33) :: Value.ref (a 34) :: Value.ref (a 35) :: Value.ref (a 36) :: Value.ref (a 37) :: Value.ref (a 38) :: Value.ref (a 39) :: Value.ref (a 40) :: Value.int (q 41) :: Value.ref (a 42) :: Value.int (q 43) :: Value.int (q 44) :: []))), ((a 8), .inl (T 0, 24, .inl f8)), ((a 9), .inl (T 0, 24, .inl f9)), ((a 10), .inl (T 0, 24, .inl f10)), ((a 11), .inl (T 0, 24, .inl f11)), ((a 17), .inl (T 0, 24, .inl f17)), ((a 18), .inl (T 0, 24, .inl f18)), ((a 19), .inl (T 0, 24, .inl f19)), ((a 20), .inl (T 1, 672, .inr (.inl f20))), ((a 21), .inl (T 1, 672, .inr (.inl f21))), ((a 22), .inl (T 4, 672, .inl f22))]) hD hS hA [0, 1, 2, 3, 4, 5, 6, 7, 8, 9, 10] rfl
          refine va_callv (va_runV (As := [.int x1]) (rest := []) ⟨hx, hb, hml, hown, hts⟩ (c_X13_laysWorths l D T _ h0 q v w a f8 f9 f10 f11 f17 f18 f19 f20 f21 f22 x1 (show 0 ≤ (q 7).toInt ∧ (q 7).toInt ≤ 24 from (by omega)) (show okR f8 f10 f11 from hokR) (show ∀ j : Nat, isB (f22 j) from hZ) (show (1 ≤ (q 4).toInt ∧ (q 4).toInt ≤ 9) ∧ 1 ≤ (q 6).toInt ∧ (q 6).toInt ≤ 9 from (by omega)) (show -1 ≤ x1.toInt ∧ x1.toInt < (q 7).toInt from (by omega))) (cwV 1 hts gX13_taken_X13_laysWorths rfl rfl rfl hv_X13_laysWorths ⟨Nat.le_of_ble_eq_true rfl, Nat.le_of_ble_eq_true rfl⟩) (pW_V (q := (RX13, TX13, 45)) (ci := 10) (q0 := 0) hP hE hD rfl rfl [0, 1, 2, 3, 4, 5, 6, 7, 8, 9, 10] (by decide +kernel) rfl rfl) rfl rfl hl.1 rfl (lv_room (Nat.le_of_ble_eq_true rfl)) dX13_taken_43 ⟨Nat.le_of_ble_eq_true rfl, Nat.le_of_ble_eq_true rfl⟩) hS (fun q _ h => hFc q h) hFc (fun u_10 t H1 locs ht hvm hr_9 hB hz1 hk1 hS => ?_)
          obtain ⟨l_11, l_12, f_13, f_14, f_15, f_16, f_17, f_18⟩ := u_10
          obtain ⟨hi0_r_9, hi1_r_9, hi2_r_9, hi3_r_9, hi4_r_9⟩ := hr_9
          have hZ : ∀ j : Nat, isB (f_18 j) := hi0_r_9
          have hEE : okE f8 f10 f_13 (q 7).toInt := hi1_r_9
          have hW1 : ∀ j : Nat, (j : Int) < 28 * (x1.toInt + 1) → 1 ≤ (f_17 j).toInt := hi2_r_9
          have hTV : ∀ y t s : Int32, spK t s → 0 ≤ y.toInt → y.toInt ≤ x1.toInt → tabW f_16 f_17 f_18 y t s = VALW (lqW (q 0) (q 1) (q 2) (q 3) (q 4) (q 5) (q 6)) f8 f9 f10 f11 f_13 y t s := hi3_r_9
          have hMEr : ∀ j : Nat, (j : Int) < (q 7).toInt → mesP f8 f9 f10 f11 f_13 f_14 f_15 j := hi4_r_9
          obtain ⟨hP1, hD1⟩ := hB
          rw [ht] at hP1
          obtain ⟨hP, hD⟩ := va_repl [(h0, .inr (10, (Value.int (q 0) :: Value.int (q 1) :: Value.int (q 2) :: Value.int (q 3) :: Value.int (q 4) :: Value.int (q 5) :: Value.int (q 6) :: Value.int (q 7) :: Value.ref (a 8) :: Value.ref (a 9) :: Value.ref (a 10) :: Value.ref (a 11) :: Value.ref (a 12) :: Value.ref (a 13) :: Value.int 0 :: Value.long l_11 :: Value.long l_12 :: Value.ref (a 17) :: Value.ref (a 18) :: Value.ref (a 19) :: Value.ref (a 20) :: Value.ref (a 21) :: Value.ref (a 22) :: Value.ref (a 23) :: Value.int (q 24) :: Value.ref (a 25) :: Value.int (q 26) :: Value.ref (a 27) :: Value.int (q 28) :: Value.int (q 29) :: Value.int (q 30) :: Value.int (q 31) :: Value.int (q 32) :: Value.int (q 33) :: Value.ref (a 34) :: Value.ref (a 35) :: Value.ref (a 36) :: Value.ref (a 37) :: Value.ref (a 38) :: Value.ref (a 39) :: Value.ref (a 40) :: Value.int (q 41) :: Value.ref (a 42) :: Value.int (q 43) :: Value.int (q 44) :: []))), ((a 8), .inl (T 0, 24, .inl f8)), ((a 9), .inl (T 0, 24, .inl f9)), ((a 10), .inl (T 0, 24, .inl f10)), ((a 11), .inl (T 0, 24, .inl f11)), ((a 17), .inl (T 0, 24, .inl f_13)), ((a 18), .inl (T 0, 24, .inl f_14)), ((a 19), .inl (T 0, 24, .inl f_15)), ((a 20), .inl (T 1, 672, .inr (.inl f_16))), ((a 21), .inl (T 1, 672, .inr (.inl f_17))), ((a 22), .inl (T 4, 672, .inl f_18))] hP hD [0, 1, 2, 3, 4, 5, 6, 7, 8, 9, 10] [0, 1, 2, 3, 4, 5, 6, 7, 8, 9, 10] rfl (by decide +kernel) rfl rfl rfl hk1 hP1
          clear hP1 hD1 hFc
          generalize H1 = H at hP hS ⊢
          refine lv_iload_n hx hb dX13_taken_46 rfl (lv_at hl 2 rfl) ?_
          refine lv_aload_n hx hb dX13_taken_47 rfl (lv_at hl 0 rfl) ?_
          refine va_get (D := D) (ci := 10) (v := .ref (a 17)) (C := RX13) (T := TX13) (N := 45) hx hb hts in_X13_taken_X13 hown hE.1 hP 0 rfl rfl 17 (by decide +kernel) (hts (.fieldLink RX13 47 "ClauseBookModel" "end" "[I") (List.mem_of_getElem? (i := 3) rfl)) (fun _ h9 => h9) rfl dX13_taken_48 ?_
          refine lv_iload_n hx hb dX13_taken_51 rfl (lv_at hl 1 rfl) ?_
          refine va_iald hx hb hE.1 hP 5 0 rfl rfl (by rw [vp_in_iff]; first | omega | (subst_vars; omega)) dX13_taken_52 ?_
          refine lv_topi (fun z_19 ez_19 => ?_)
          have hzz_19 : z_19.toInt = (f_13 (x1.toNatClampNeg)).toInt := by rw [ez_19]
          have hE9 := hEE (x1.toNatClampNeg) (by omega)
          have hE8 := hE9.2 (by omega)
          have hE7 := hEE ((f10 (x1.toNatClampNeg)).toNatClampNeg) (by have h9 := tn hc8.1; omega)
          refine lv_icmp_le (tgt := 61) hx hb dX13_taken_53 (by decide +kernel) (fun c_20 => ?_) (fun c_20 => ?_)
          · rw [fa_le] at c_20
            refine lv_aload_n hx hb dX13_taken_61 rfl (lv_at hl 0 rfl) ?_
            refine lv_iload_n hx hb dX13_taken_62 rfl (lv_at hl 1 rfl) ?_
            refine lv_iload_n hx hb dX13_taken_63 rfl (lv_at hl 2 rfl) ?_
            refine lv_iload_n hx hb dX13_taken_64 rfl (lv_at hl 3 rfl) ?_
            have hFc := va_free (wc := [(h0, .inr (10, (Value.int (q 0) :: Value.int (q 1) :: Value.int (q 2) :: Value.int (q 3) :: Value.int (q 4) :: Value.int (q 5) :: Value.int (q 6) :: Value.int (q 7) :: Value.ref (a 8) :: Value.ref (a 9) :: Value.ref (a 10) :: Value.ref (a 11) :: Value.ref (a 12) :: Value.ref (a 13) :: Value.int 0 :: Value.long l_11 :: Value.long l_12 :: Value.ref (a 17) :: Value.ref (a 18) :: Value.ref (a 19) :: Value.ref (a 20) :: Value.ref (a 21) :: Value.ref (a 22) :: Value.ref (a 23) :: Value.int (q 24) :: Value.ref (a 25) :: Value.int (q 26) :: Value.ref (a 27) :: Value.int (q 28) :: Value.int (q 29) :: Value.int (q 30) :: Value.int (q 31) :: Value.int (q 32) :: Value.int (q 33) :: Value.ref (a 34) :: Value.ref (a 35) :: Value.ref (a 36) :: Value.ref (a 37) :: Value.ref (a 38) :: Value.ref (a 39) :: Value.ref (a 40) :: Value.int (q 41) :: Value.ref (a 42) :: Value.int (q 43) :: Value.int (q 44) :: []))), ((a 10), .inl (T 0, 24, .inl f10)), ((a 17), .inl (T 0, 24, .inl f_13)), ((a 20), .inl (T 1, 672, .inr (.inl f_16))), ((a 21), .inl (T 1, 672, .inr (.inl f_17))), ((a 22), .inl (T 4, 672, .inl f_18))]) hD hS hA [0, 3, 5, 8, 9, 10] rfl
            refine va_calli (va_runV (As := [.int x1, .int x2, .int x3]) (rest := []) ⟨hx, hb, hml, hown, hts⟩ (c_X13_takenAt l D T _ h0 (fun k => cond (Nat.beq k 14) 0 (q k)) l_11 l_12 a f10 f_13 f_16 f_17 f_18 x1 x2 x3 (show isB (0 : Int32) from isB0) (show ∀ j : Nat, isB (f_18 j) from hZ) (show (1 ≤ (q 4).toInt ∧ (q 4).toInt ≤ 9) ∧ 1 ≤ (q 6).toInt ∧ (q 6).toInt ≤ 9 from (by omega)) (show 0 ≤ x1.toInt ∧ x1.toInt < 24 from (by omega)) (show 0 ≤ x2.toInt ∧ x2.toInt ≤ 6 from (by omega)) (show 0 ≤ x3.toInt ∧ x3.toInt ≤ 63 from (by omega)) (show 0 ≤ (f10 (x1.toNatClampNeg)).toInt ∧ (f10 (x1.toNatClampNeg)).toInt < x1.toInt from (by omega)) (show x2.toInt ≤ (f_13 ((f10 (x1.toNatClampNeg)).toNatClampNeg)).toInt ∧ (f_13 ((f10 (x1.toNatClampNeg)).toNatClampNeg)).toInt ≤ 6 from (by omega)) (show ∀ j : Nat, (j : Int) < 28 * (x1.toInt + 1) → 1 ≤ (f_17 j).toInt from hW1)) (cwV 3 hts gX13_taken_X13_takenAt rfl rfl rfl hv_X13_takenAt ⟨Nat.le_of_ble_eq_true rfl, Nat.le_of_ble_eq_true rfl⟩) (pW_V (q := (RX13, TX13, 45)) (ci := 10) (q0 := 0) hP hE hD rfl rfl [0, 3, 5, 8, 9, 10] (by decide +kernel) rfl rfl) rfl rfl hl.1 rfl (lv_room (Nat.le_of_ble_eq_true rfl)) dX13_taken_65 ⟨Nat.le_of_ble_eq_true rfl, Nat.le_of_ble_eq_true rfl⟩) hS (fun q _ h => hFc q h) hFc (fun r_21 u_22 t H1 locs ht hvm hr_21 hB hz1 hk1 hS => ?_)
            obtain ⟨n_23, l_24, l_25⟩ := u_22
            obtain ⟨hi0_r_21, hi1_r_21, hi2_r_21⟩ := hr_21
            have hB14_r_21 : isB n_23 := hi0_r_21
            have hj1_r_21 : r_21.toInt = -5 ∨ (0 ≤ r_21.toInt ∧ r_21.toInt ≤ 6) := hi1_r_21
            have hj2_r_21 : takQ (lqW (q 0) (q 1) (q 2) (q 3) (q 4) (q 5) (q 6)) f10 (tabW f_16 f_17 f_18) (f_13 ((f10 (x1.toNatClampNeg)).toNatClampNeg)).toInt x1 x3 x2 r_21 := hi2_r_21
            obtain ⟨hP1, hD1⟩ := hB
            rw [ht] at hP1
            obtain ⟨hP, hD⟩ := va_repl [(h0, .inr (10, (Value.int (q 0) :: Value.int (q 1) :: Value.int (q 2) :: Value.int (q 3) :: Value.int (q 4) :: Value.int (q 5) :: Value.int (q 6) :: Value.int (q 7) :: Value.ref (a 8) :: Value.ref (a 9) :: Value.ref (a 10) :: Value.ref (a 11) :: Value.ref (a 12) :: Value.ref (a 13) :: Value.int n_23 :: Value.long l_24 :: Value.long l_25 :: Value.ref (a 17) :: Value.ref (a 18) :: Value.ref (a 19) :: Value.ref (a 20) :: Value.ref (a 21) :: Value.ref (a 22) :: Value.ref (a 23) :: Value.int (q 24) :: Value.ref (a 25) :: Value.int (q 26) :: Value.ref (a 27) :: Value.int (q 28) :: Value.int (q 29) :: Value.int (q 30) :: Value.int (q 31) :: Value.int (q 32) :: Value.int (q 33) :: Value.ref (a 34) :: Value.ref (a 35) :: Value.ref (a 36) :: Value.ref (a 37) :: Value.ref (a 38) :: Value.ref (a 39) :: Value.ref (a 40) :: Value.int (q 41) :: Value.ref (a 42) :: Value.int (q 43) :: Value.int (q 44) :: []))), ((a 8), .inl (T 0, 24, .inl f8)), ((a 9), .inl (T 0, 24, .inl f9)), ((a 10), .inl (T 0, 24, .inl f10)), ((a 11), .inl (T 0, 24, .inl f11)), ((a 17), .inl (T 0, 24, .inl f_13)), ((a 18), .inl (T 0, 24, .inl f_14)), ((a 19), .inl (T 0, 24, .inl f_15)), ((a 20), .inl (T 1, 672, .inr (.inl f_16))), ((a 21), .inl (T 1, 672, .inr (.inl f_17))), ((a 22), .inl (T 4, 672, .inl f_18))] hP hD [0, 3, 5, 8, 9, 10] [0, 3, 5, 8, 9, 10] rfl (by decide +kernel) rfl rfl rfl hk1 hP1
            clear hP1 hD1 hFc
            generalize H1 = H at hP hS ⊢
            exact W.iret hx hb hr (fun t ht hW => ⟨⟨_, (n_23, l_24, l_25, f_13, f_14, f_15, f_16, f_17, f_18), rfl, ⟨(show isB n_23 from hB14_r_21), (show ∀ j : Nat, isB (f_18 j) from hZ), (show hadV (q 7) x1 x2 x3 ∧ (f8 (x1.toNatClampNeg)).toNatClampNeg = 11 → ∀ j : Nat, (j : Int) < (q 7).toInt → mesP f8 f9 f10 f11 f_13 f_14 f_15 j from (fun _ => hMEr)), (show tkQ (lqW (q 0) (q 1) (q 2) (q 3) (q 4) (q 5) (q 6)) f8 f10 f_13 (VALW (lqW (q 0) (q 1) (q 2) (q 3) (q 4) (q 5) (q 6)) f8 f9 f10 f11 f_13) (q 7) x1 x2 x3 r_21 from (Or.inr ⟨⟨⟨(by omega), (by omega), (by omega)⟩, (by omega)⟩, Or.inr ⟨(by omega), (by rw [hE8]; exact takQ_ext (by omega) (by omega) (by omega) (fun t s g => hTV _ t s g (by omega) (by omega)) (fun t k g _ => avg_tv (fun t s g => hTV x1 t s g (by omega) (by omega)) ⟨g.1.1, by omega⟩ g.2) hj2_r_21)⟩⟩))⟩, by rw [ht]; exact hP.sub [0, 1, 2, 3, 4, 5, 6, 7, 8, 9, 10] rfl, hD.sub [0, 1, 2, 3, 4, 5, 6, 7, 8, 9, 10] (by decide +kernel) rfl⟩, hS.F ht⟩) hS.2.2 dX13_taken_68
          · rw [fa_le] at c_20
            refine lv_bipush (v := (-3)) hx hb dX13_taken_56 (by decide +kernel) ?_
            refine lv_goto (tgt := 68) hx hb dX13_taken_58 (by decide +kernel) ?_
            exact W.iret hx hb hr (fun t ht hW => ⟨⟨_, (0, l_11, l_12, f_13, f_14, f_15, f_16, f_17, f_18), rfl, ⟨(show isB 0 from isB0), (show ∀ j : Nat, isB (f_18 j) from hZ), (show hadV (q 7) x1 x2 x3 ∧ (f8 (x1.toNatClampNeg)).toNatClampNeg = 11 → ∀ j : Nat, (j : Int) < (q 7).toInt → mesP f8 f9 f10 f11 f_13 f_14 f_15 j from (fun _ => hMEr)), (show tkQ (lqW (q 0) (q 1) (q 2) (q 3) (q 4) (q 5) (q 6)) f8 f10 f_13 (VALW (lqW (q 0) (q 1) (q 2) (q 3) (q 4) (q 5) (q 6)) f8 f9 f10 f11 f_13) (q 7) x1 x2 x3 ((-3) : Int32) from (Or.inr ⟨⟨⟨(by omega), (by omega), (by omega)⟩, (by omega)⟩, Or.inl ⟨(by omega), (by decide +kernel)⟩⟩))⟩, by rw [ht]; exact hP.sub [0, 1, 2, 3, 4, 5, 6, 7, 8, 9, 10] rfl, hD.sub [0, 1, 2, 3, 4, 5, 6, 7, 8, 9, 10] (by decide +kernel) rfl⟩, hS.F ht⟩) hS.2.2 dX13_taken_68
        · refine lv_if_ne (tgt := 41) hx hb dX13_taken_35 (by decide +kernel) (fun c9 => absurd c9 (by decide +kernel)) (fun _ => ?_)
          refine lv_bipush (v := (-2)) hx hb dX13_taken_38 (by decide +kernel) ?_
          exact W.iret hx hb hr (fun t ht hW => ⟨⟨_, ((q 14), v, w, f17, f18, f19, f20, f21, f22), rfl, ⟨(show isB (q 14) from hB), (show ∀ j : Nat, isB (f22 j) from hZ), (show hadV (q 7) x1 x2 x3 ∧ (f8 (x1.toNatClampNeg)).toNatClampNeg = 11 → ∀ j : Nat, (j : Int) < (q 7).toInt → mesP f8 f9 f10 f11 f17 f18 f19 j from (fun h9 => by exfalso; obtain ⟨⟨h1, h2, h3⟩, h4⟩ := h9; omega)), (show tkQ (lqW (q 0) (q 1) (q 2) (q 3) (q 4) (q 5) (q 6)) f8 f10 f17 (VALW (lqW (q 0) (q 1) (q 2) (q 3) (q 4) (q 5) (q 6)) f8 f9 f10 f11 f17) (q 7) x1 x2 x3 ((-2) : Int32) from (Or.inl ⟨(fun h9 => by obtain ⟨⟨h1, h2, h3⟩, h4⟩ := h9; omega), (by decide +kernel)⟩))⟩, by rw [ht]; exact hP.sub [0, 1, 2, 3, 4, 5, 6, 7, 8, 9, 10] rfl, hD.sub [0, 1, 2, 3, 4, 5, 6, 7, 8, 9, 10] (by decide +kernel) rfl⟩, hS.F ht⟩) hS.2.2 dX13_taken_40
      · refine lv_if_eq (tgt := 38) hx hb dX13_taken_28 (by decide +kernel) (fun _ => ?_) (fun c9 => absurd c9 (by decide +kernel))
        refine lv_bipush (v := (-2)) hx hb dX13_taken_38 (by decide +kernel) ?_
        exact W.iret hx hb hr (fun t ht hW => ⟨⟨_, ((q 14), v, w, f17, f18, f19, f20, f21, f22), rfl, ⟨(show isB (q 14) from hB), (show ∀ j : Nat, isB (f22 j) from hZ), (show hadV (q 7) x1 x2 x3 ∧ (f8 (x1.toNatClampNeg)).toNatClampNeg = 11 → ∀ j : Nat, (j : Int) < (q 7).toInt → mesP f8 f9 f10 f11 f17 f18 f19 j from (fun h9 => by exfalso; obtain ⟨⟨h1, h2, h3⟩, h4⟩ := h9; omega)), (show tkQ (lqW (q 0) (q 1) (q 2) (q 3) (q 4) (q 5) (q 6)) f8 f10 f17 (VALW (lqW (q 0) (q 1) (q 2) (q 3) (q 4) (q 5) (q 6)) f8 f9 f10 f11 f17) (q 7) x1 x2 x3 ((-2) : Int32) from (Or.inl ⟨(fun h9 => by obtain ⟨⟨h1, h2, h3⟩, h4⟩ := h9; omega), (by decide +kernel)⟩))⟩, by rw [ht]; exact hP.sub [0, 1, 2, 3, 4, 5, 6, 7, 8, 9, 10] rfl, hD.sub [0, 1, 2, 3, 4, 5, 6, 7, 8, 9, 10] (by decide +kernel) rfl⟩, hS.F ht⟩) hS.2.2 dX13_taken_40
  · refine lv_if_eq (tgt := 38) hx hb dX13_taken_5 (by decide +kernel) (fun _ => ?_) (fun c9 => absurd c9 (by decide +kernel))
    refine lv_bipush (v := (-2)) hx hb dX13_taken_38 (by decide +kernel) ?_
    exact W.iret hx hb hr (fun t ht hW => ⟨⟨_, ((q 14), v, w, f17, f18, f19, f20, f21, f22), rfl, ⟨(show isB (q 14) from hB), (show ∀ j : Nat, isB (f22 j) from hZ), (show hadV (q 7) x1 x2 x3 ∧ (f8 (x1.toNatClampNeg)).toNatClampNeg = 11 → ∀ j : Nat, (j : Int) < (q 7).toInt → mesP f8 f9 f10 f11 f17 f18 f19 j from (fun h9 => by exfalso; obtain ⟨⟨h1, h2, h3⟩, h4⟩ := h9; omega)), (show tkQ (lqW (q 0) (q 1) (q 2) (q 3) (q 4) (q 5) (q 6)) f8 f10 f17 (VALW (lqW (q 0) (q 1) (q 2) (q 3) (q 4) (q 5) (q 6)) f8 f9 f10 f11 f17) (q 7) x1 x2 x3 ((-2) : Int32) from (Or.inl ⟨(fun h9 => by obtain ⟨⟨h1, h2, h3⟩, h4⟩ := h9; omega), (by decide +kernel)⟩))⟩, by rw [ht]; exact hP.sub [0, 1, 2, 3, 4, 5, 6, 7, 8, 9, 10] rfl, hD.sub [0, 1, 2, 3, 4, 5, 6, 7, 8, 9, 10] (by decide +kernel) rfl⟩, hS.F ht⟩) hS.2.2 dX13_taken_40
end
