section
theorem dX13_laysChoice_0 : decode cX13_laysChoice 0 = .ok (.aload_n 0, 1) := by decide +kernel
theorem dX13_laysChoice_1 : decode cX13_laysChoice 1 = .ok (.getfield 35, 3) := by decide +kernel
theorem dX13_laysChoice_12 : decode cX13_laysChoice 12 = .ok (.iload_n 1, 1) := by decide +kernel
theorem dX13_laysChoice_13 : decode cX13_laysChoice 13 = .ok (.iaload, 1) := by decide +kernel
theorem dX13_laysChoice_14 : decode cX13_laysChoice 14 = .ok (.istore 5, 2) := by decide +kernel
theorem dX13_laysChoice_16 : decode cX13_laysChoice 16 = .ok (.iload_n 2, 1) := by decide +kernel
theorem dX13_laysChoice_17 : decode cX13_laysChoice 17 = .ok (.aload_n 0, 1) := by decide +kernel
theorem dX13_laysChoice_18 : decode cX13_laysChoice 18 = .ok (.getfield 47, 3) := by decide +kernel
theorem dX13_laysChoice_21 : decode cX13_laysChoice 21 = .ok (.iload 4, 2) := by decide +kernel
theorem dX13_laysChoice_23 : decode cX13_laysChoice 23 = .ok (.iaload, 1) := by decide +kernel
theorem dX13_laysChoice_24 : decode cX13_laysChoice 24 = .ok (.if_icmp .gt 14, 3) := by decide +kernel
theorem dX13_laysChoice_27 : decode cX13_laysChoice 27 = .ok (.iload_n 2, 1) := by decide +kernel
theorem dX13_laysChoice_28 : decode cX13_laysChoice 28 = .ok (.aload_n 0, 1) := by decide +kernel
theorem dX13_laysChoice_29 : decode cX13_laysChoice 29 = .ok (.getfield 47, 3) := by decide +kernel
theorem dX13_laysChoice_32 : decode cX13_laysChoice 32 = .ok (.iload 5, 2) := by decide +kernel
theorem dX13_laysChoice_34 : decode cX13_laysChoice 34 = .ok (.iaload, 1) := by decide +kernel
theorem dX13_laysChoice_35 : decode cX13_laysChoice 35 = .ok (.if_icmp .le 30, 3) := by decide +kernel
theorem dX13_laysChoice_38 : decode cX13_laysChoice 38 = .ok (.aload_n 0, 1) := by decide +kernel
theorem dX13_laysChoice_39 : decode cX13_laysChoice 39 = .ok (.iload_n 2, 1) := by decide +kernel
theorem dX13_laysChoice_4 : decode cX13_laysChoice 4 = .ok (.iload_n 1, 1) := by decide +kernel
theorem dX13_laysChoice_40 : decode cX13_laysChoice 40 = .ok (.aload_n 0, 1) := by decide +kernel
theorem dX13_laysChoice_41 : decode cX13_laysChoice 41 = .ok (.getfield 47, 3) := by decide +kernel
theorem dX13_laysChoice_44 : decode cX13_laysChoice 44 = .ok (.iload 4, 2) := by decide +kernel
theorem dX13_laysChoice_46 : decode cX13_laysChoice 46 = .ok (.iaload, 1) := by decide +kernel
theorem dX13_laysChoice_47 : decode cX13_laysChoice 47 = .ok (.if_icmp .le 8, 3) := by decide +kernel
theorem dX13_laysChoice_5 : decode cX13_laysChoice 5 = .ok (.iaload, 1) := by decide +kernel
theorem dX13_laysChoice_50 : decode cX13_laysChoice 50 = .ok (.iload 5, 2) := by decide +kernel
theorem dX13_laysChoice_52 : decode cX13_laysChoice 52 = .ok (.goto 5, 3) := by decide +kernel
theorem dX13_laysChoice_55 : decode cX13_laysChoice 55 = .ok (.iload 4, 2) := by decide +kernel
theorem dX13_laysChoice_57 : decode cX13_laysChoice 57 = .ok (.iload_n 2, 1) := by decide +kernel
theorem dX13_laysChoice_58 : decode cX13_laysChoice 58 = .ok (.iload_n 3, 1) := by decide +kernel
theorem dX13_laysChoice_59 : decode cX13_laysChoice 59 = .ok (.invokevirtual 243, 3) := by decide +kernel
theorem dX13_laysChoice_6 : decode cX13_laysChoice 6 = .ok (.istore 4, 2) := by decide +kernel
theorem dX13_laysChoice_62 : decode cX13_laysChoice 62 = .ok (.goto 29, 3) := by decide +kernel
theorem dX13_laysChoice_65 : decode cX13_laysChoice 65 = .ok (.aload_n 0, 1) := by decide +kernel
theorem dX13_laysChoice_66 : decode cX13_laysChoice 66 = .ok (.iload 4, 2) := by decide +kernel
theorem dX13_laysChoice_68 : decode cX13_laysChoice 68 = .ok (.iload 5, 2) := by decide +kernel
theorem dX13_laysChoice_70 : decode cX13_laysChoice 70 = .ok (.iload_n 2, 1) := by decide +kernel
theorem dX13_laysChoice_71 : decode cX13_laysChoice 71 = .ok (.iload_n 3, 1) := by decide +kernel
theorem dX13_laysChoice_72 : decode cX13_laysChoice 72 = .ok (.aload_n 0, 1) := by decide +kernel
theorem dX13_laysChoice_73 : decode cX13_laysChoice 73 = .ok (.getfield 28, 3) := by decide +kernel
theorem dX13_laysChoice_76 : decode cX13_laysChoice 76 = .ok (.iload_n 1, 1) := by decide +kernel
theorem dX13_laysChoice_77 : decode cX13_laysChoice 77 = .ok (.iaload, 1) := by decide +kernel
theorem dX13_laysChoice_78 : decode cX13_laysChoice 78 = .ok (.bipush 6, 2) := by decide +kernel
theorem dX13_laysChoice_8 : decode cX13_laysChoice 8 = .ok (.aload_n 0, 1) := by decide +kernel
theorem dX13_laysChoice_80 : decode cX13_laysChoice 80 = .ok (.if_icmp .ne 7, 3) := by decide +kernel
theorem dX13_laysChoice_83 : decode cX13_laysChoice 83 = .ok (.iconst 1, 1) := by decide +kernel
theorem dX13_laysChoice_84 : decode cX13_laysChoice 84 = .ok (.goto 4, 3) := by decide +kernel
theorem dX13_laysChoice_87 : decode cX13_laysChoice 87 = .ok (.iconst (-1), 1) := by decide +kernel
theorem dX13_laysChoice_88 : decode cX13_laysChoice 88 = .ok (.invokevirtual 263, 3) := by decide +kernel
theorem dX13_laysChoice_9 : decode cX13_laysChoice 9 = .ok (.getfield 38, 3) := by decide +kernel
theorem dX13_laysChoice_91 : decode cX13_laysChoice 91 = .ok (.return_, 1) := by decide +kernel
set_option maxRecDepth 20000 in
theorem ggX13_laysChoice_X13_takes : GoodIn wsX13_laysChoice wsX13_takes := goodIn_r _ [9, 10, 11, 12, 13, 14, 15, 16, 17, 8, 18, 30, 31, 32, 33, 34, 35, 36, 37, 38, 39, 40, 41, 42, 43, 44, 45, 46, 47, 48, 49, 50, 51, 52, 53, 54, 55, 56, 57, 58, 59, 60, 61, 62, 63, 64, 65, 66, 67, 68, 69, 70, 71, 72, 73, 74] rfl (by decide +kernel)
set_option maxRecDepth 40000 in
theorem ggX13_laysChoice_X13_takesBest_0 : GoodIn wsX13_laysChoice [.code yX13_takesBest cX13_takesBest 10 none] := goodIn_r _ [22] rfl (by decide +kernel)
set_option maxRecDepth 40000 in
theorem ggX13_laysChoice_X13_takesBest_1 : GoodIn wsX13_laysChoice [.fieldLink RX13 145 "ClauseBookModel" "above" "J", .fieldLink RX13 149 "ClauseBookModel" "below" "J", .fieldLink RX13 131 "ClauseBookModel" "isMuch" "Z", .methodLink RX13 243 yX13_takes, .instanceMethod yX13_takes, .selects RX13 yX13_takes yX13_takes, .initialized RX13, .code yX13_takes cX13_takes 5 none, .fieldLink RX13 63 "ClauseBookModel" "worthMuch" "[Z", .fieldLink RX13 56 "ClauseBookModel" "worthAbove" "[J", .fieldLink RX13 60 "ClauseBookModel" "worthBelow" "[J", .methodLink RX13 239 yX13_at, .static yX13_at, .code yX13_at cX13_at 3 (some .int), .methodLink RX13 167 yX13_compared, .static yX13_compared, .code yX13_compared cX13_compared 16 (some .int), .methodLink RX13 162 yJ9_floorDiv_f86c9, .static yJ9_floorDiv_f86c9, .initialized RJ9, .code yJ9_floorDiv_f86c9 cJ9_floorDiv_f86c9 6 (some .long)] := goodIn_r _ [13, 15, 10, 5, 6, 7, 8, 9, 11, 12, 14, 16, 17, 18, 23, 24, 25, 26, 27, 28, 29] rfl (by decide +kernel)
set_option maxRecDepth 40000 in
theorem ggX13_laysChoice_X13_takesBest_2 : GoodIn wsX13_laysChoice wsX130 := goodIn_r _ [30, 31, 32, 33, 34, 35, 36, 37, 38, 39, 40, 41, 42, 43, 44, 45, 46, 47, 48, 49, 50, 51, 52, 53, 54, 55, 56, 57, 58, 59, 60, 61, 62, 63, 64, 65, 66, 67, 68, 69, 70, 71, 72, 73, 74] rfl (by decide +kernel)
set_option maxRecDepth 40000 in
theorem ggX13_laysChoice_X13_takesBest : GoodIn wsX13_laysChoice wsX13_takesBest := (goodIn_app ggX13_laysChoice_X13_takesBest_0 (goodIn_app ggX13_laysChoice_X13_takesBest_1 ggX13_laysChoice_X13_takesBest_2))
set_option maxRecDepth 20000 in
theorem gX13_laysChoice_X13_takes : GoodIn wsX13_laysChoice (wsV RX13 243 RX13 yX13_takes wsX13_takes) := goodIn_app (goodIn_r _ [5, 6, 7, 8] rfl (by decide +kernel)) ggX13_laysChoice_X13_takes
set_option maxRecDepth 20000 in
theorem gX13_laysChoice_X13_takesBest : GoodIn wsX13_laysChoice (wsV RX13 263 RX13 yX13_takesBest wsX13_takesBest) := goodIn_app (goodIn_r _ [19, 20, 21, 8] rfl (by decide +kernel)) ggX13_laysChoice_X13_takesBest
theorem hv_X13_takesBest : yX13_takesBest.cls = RX13 ∧ yX13_takesBest.cls ≠ "java/lang/invoke/MethodHandle" ∧ yX13_takesBest.cls ≠ "java/lang/invoke/VarHandle" ∧ (parseMethodDescriptor yX13_takesBest.desc).map (fun d => d.parameters.length) = some 5 := by decide +kernel
set_option maxRecDepth 20000 in
theorem in_X13_laysChoice_X13 : ∀ w ∈ wsX130, w ∈ wsX13_laysChoice := sub_r [30, 31, 32, 33, 34, 35, 36, 37, 38, 39, 40, 41, 42, 43, 44, 45, 46, 47, 48, 49, 50, 51, 52, 53, 54, 55, 56, 57, 58, 59, 60, 61, 62, 63, 64, 65, 66, 67, 68, 69, 70, 71, 72, 73, 74] rfl
set_option maxHeartbeats 4000000 in
set_option maxRecDepth 100000 in
theorem c_X13_laysChoice (l : Launch) (D : va_G) (T : Nat → ClassId) (sz : Nat) (h0 : Nat) (q : Nat → Int32) (v : Int64) (w : Int64) (a : Nat → Nat) (f8 : Nat → Int32) (f9 : Nat → Int32) (f10 : Nat → Int32) (f11 : Nat → Int32) (f17 : Nat → Int32) (f20 : Nat → Int64) (f21 : Nat → Int64) (f22 : Nat → Int32) (x1 : Int32) (x2 : Int32) (x3 : Int32) (hB : isB (q 14)) (hZ : ∀ j : Nat, isB (f22 j)) (hx1 : 0 ≤ x1.toInt ∧ x1.toInt < 24) (hx2 : 0 ≤ x2.toInt ∧ x2.toInt ≤ 6) (hx3 : 0 ≤ x3.toInt ∧ x3.toInt ≤ x2.toInt) (hc9 : 0 ≤ (f10 (x1.toNatClampNeg)).toInt ∧ (f10 (x1.toNatClampNeg)).toInt < x1.toInt) (hd9 : 0 ≤ (f11 (x1.toNatClampNeg)).toInt ∧ (f11 (x1.toNatClampNeg)).toInt < x1.toInt) (hWB1 : ∀ j : Nat, (j : Int) < 28 * x1.toInt → 1 ≤ (f21 j).toInt) (hk67 : (f8 (x1.toNatClampNeg)).toInt = 6 ∨ (f8 (x1.toNatClampNeg)).toInt = 7) (hle : x2.toInt ≤ (f17 (x1.toNatClampNeg)).toInt) (hLw : lowS (tabW f20 f21 f22) x1 x2 x3) : Met l yX13_laysChoice wsX13_laysChoice ({ frames := 131, cells := 0, slots := 0, locals := 5204 }) (pW [.ref h0, .int x1, .int x2, .int x3] D T [(h0, .inr (10, (Value.int (q 0) :: Value.int (q 1) :: Value.int (q 2) :: Value.int (q 3) :: Value.int (q 4) :: Value.int (q 5) :: Value.int (q 6) :: Value.int (q 7) :: Value.ref (a 8) :: Value.ref (a 9) :: Value.ref (a 10) :: Value.ref (a 11) :: Value.ref (a 12) :: Value.ref (a 13) :: Value.int (q 14) :: Value.long v :: Value.long w :: Value.ref (a 17) :: Value.ref (a 18) :: Value.ref (a 19) :: Value.ref (a 20) :: Value.ref (a 21) :: Value.ref (a 22) :: Value.ref (a 23) :: Value.int (q 24) :: Value.ref (a 25) :: Value.int (q 26) :: Value.ref (a 27) :: Value.int (q 28) :: Value.int (q 29) :: Value.int (q 30) :: Value.int (q 31) :: Value.int (q 32) :: Value.int (q 33) :: Value.ref (a 34) :: Value.ref (a 35) :: Value.ref (a 36) :: Value.ref (a 37) :: Value.ref (a 38) :: Value.ref (a 39) :: Value.ref (a 40) :: Value.int (q 41) :: Value.ref (a 42) :: Value.int (q 43) :: Value.int (q 44) :: []))), ((a 8), .inl (T 0, 24, .inl f8)), ((a 9), .inl (T 0, 24, .inl f9)), ((a 10), .inl (T 0, 24, .inl f10)), ((a 11), .inl (T 0, 24, .inl f11)), ((a 17), .inl (T 0, 24, .inl f17)), ((a 20), .inl (T 1, 672, .inr (.inl f20))), ((a 21), .inl (T 1, 672, .inr (.inl f21))), ((a 22), .inl (T 4, 672, .inl f22))] sz) (va_Qv (fun (u : (Int32) × (Int64) × (Int64)) => (isB u.1) ∧ (1 ≤ u.2.2.toInt) ∧ (((q 14) : Int32).toInt = 0 → mpW u.1 u.2.1 u.2.2 = stepW (lqW (q 0) (q 1) (q 2) (q 3) (q 4) (q 5) (q 6)) f8 f9 f10 f11 f17 (tabW f20 f21 f22) x1 x2 x3)) (bW D (va_A [(h0, .inr (10, (Value.int (q 0) :: Value.int (q 1) :: Value.int (q 2) :: Value.int (q 3) :: Value.int (q 4) :: Value.int (q 5) :: Value.int (q 6) :: Value.int (q 7) :: Value.ref (a 8) :: Value.ref (a 9) :: Value.ref (a 10) :: Value.ref (a 11) :: Value.ref (a 12) :: Value.ref (a 13) :: Value.int (q 14) :: Value.long v :: Value.long w :: Value.ref (a 17) :: Value.ref (a 18) :: Value.ref (a 19) :: Value.ref (a 20) :: Value.ref (a 21) :: Value.ref (a 22) :: Value.ref (a 23) :: Value.int (q 24) :: Value.ref (a 25) :: Value.int (q 26) :: Value.ref (a 27) :: Value.int (q 28) :: Value.int (q 29) :: Value.int (q 30) :: Value.int (q 31) :: Value.int (q 32) :: Value.int (q 33) :: Value.ref (a 34) :: Value.ref (a 35) :: Value.ref (a 36) :: Value.ref (a 37) :: Value.ref (a 38) :: Value.ref (a 39) :: Value.ref (a 40) :: Value.int (q 41) :: Value.ref (a 42) :: Value.int (q 43) :: Value.int (q 44) :: []))), ((a 8), .inl (T 0, 24, .inl f8)), ((a 9), .inl (T 0, 24, .inl f9)), ((a 10), .inl (T 0, 24, .inl f10)), ((a 11), .inl (T 0, 24, .inl f11)), ((a 17), .inl (T 0, 24, .inl f17)), ((a 20), .inl (T 1, 672, .inr (.inl f20))), ((a 21), .inl (T 1, 672, .inr (.inl f21))), ((a 22), .inl (T 4, 672, .inl f22))] sz) (fun (u : (Int32) × (Int64) × (Int64)) => [(h0, .inr (10, (Value.int (q 0) :: Value.int (q 1) :: Value.int (q 2) :: Value.int (q 3) :: Value.int (q 4) :: Value.int (q 5) :: Value.int (q 6) :: Value.int (q 7) :: Value.ref (a 8) :: Value.ref (a 9) :: Value.ref (a 10) :: Value.ref (a 11) :: Value.ref (a 12) :: Value.ref (a 13) :: Value.int u.1 :: Value.long u.2.1 :: Value.long u.2.2 :: Value.ref (a 17) :: Value.ref (a 18) :: Value.ref (a 19) :: Value.ref (a 20) :: Value.ref (a 21) :: Value.ref (a 22) :: Value.ref (a 23) :: Value.int (q 24) :: Value.ref (a 25) :: Value.int (q 26) :: Value.ref (a 27) :: Value.int (q 28) :: Value.int (q 29) :: Value.int (q 30) :: Value.int (q 31) :: Value.int (q 32) :: Value.int (q 33) :: Value.ref (a 34) :: Value.ref (a 35) :: Value.ref (a 36) :: Value.ref (a 37) :: Value.ref (a 38) :: Value.ref (a 39) :: Value.ref (a 40) :: Value.int (q 41) :: Value.ref (a 42) :: Value.int (q 43) :: Value.int (q 44) :: []))), ((a 8), .inl (T 0, 24, .inl f8)), ((a 9), .inl (T 0, 24, .inl f9)), ((a 10), .inl (T 0, 24, .inl f10)), ((a 11), .inl (T 0, 24, .inl f11)), ((a 17), .inl (T 0, 24, .inl f17)), ((a 20), .inl (T 1, 672, .inr (.inl f20))), ((a 21), .inl (T 1, 672, .inr (.inl f21))), ((a 22), .inl (T 4, 672, .inl f22))])) (va_A [(h0, .inr (10, (Value.int (q 0) :: Value.int (q 1) :: Value.int (q 2) :: Value.int (q 3) :: Value.int (q 4) :: Value.int (q 5) :: Value.int (q 6) :: Value.int (q 7) :: Value.ref (a 8) :: Value.ref (a 9) :: Value.ref (a 10) :: Value.ref (a 11) :: Value.ref (a 12) :: Value.ref (a 13) :: Value.int (q 14) :: Value.long v :: Value.long w :: Value.ref (a 17) :: Value.ref (a 18) :: Value.ref (a 19) :: Value.ref (a 20) :: Value.ref (a 21) :: Value.ref (a 22) :: Value.ref (a 23) :: Value.int (q 24) :: Value.ref (a 25) :: Value.int (q 26) :: Value.ref (a 27) :: Value.int (q 28) :: Value.int (q 29) :: Value.int (q 30) :: Value.int (q 31) :: Value.int (q 32) :: Value.int (q 33) :: Value.ref (a 34) :: Value.ref (a 35) :: Value.ref (a 36) :: Value.ref (a 37) :: Value.ref (a 38) :: Value.ref (a 39) :: Value.ref (a 40) :: Value.int (q 41) :: Value.ref (a 42) :: Value.int (q 43) :: Value.int (q 44) :: []))), ((a 8), .inl (T 0, 24, .inl f8)), ((a 9), .inl (T 0, 24, .inl f9)), ((a 10), .inl (T 0, 24, .inl f10)), ((a 11), .inl (T 0, 24, .inl f11)), ((a 17), .inl (T 0, 24, .inl f17)), ((a 20), .inl (T 1, 672, .inr (.inl f20))), ((a 21), .inl (T 1, 672, .inr (.inl f21))), ((a 22), .inl (T 4, 672, .inl f22))] sz)) 0 0 (va_A [(h0, .inr (10, (Value.int (q 0) :: Value.int (q 1) :: Value.int (q 2) :: Value.int (q 3) :: Value.int (q 4) :: Value.int (q 5) :: Value.int (q 6) :: Value.int (q 7) :: Value.ref (a 8) :: Value.ref (a 9) :: Value.ref (a 10) :: Value.ref (a 11) :: Value.ref (a 12) :: Value.ref (a 13) :: Value.int (q 14) :: Value.long v :: Value.long w :: Value.ref (a 17) :: Value.ref (a 18) :: Value.ref (a 19) :: Value.ref (a 20) :: Value.ref (a 21) :: Value.ref (a 22) :: Value.ref (a 23) :: Value.int (q 24) :: Value.ref (a 25) :: Value.int (q 26) :: Value.ref (a 27) :: Value.int (q 28) :: Value.int (q 29) :: Value.int (q 30) :: Value.int (q 31) :: Value.int (q 32) :: Value.int (q 33) :: Value.ref (a 34) :: Value.ref (a 35) :: Value.ref (a 36) :: Value.ref (a 37) :: Value.ref (a 38) :: Value.ref (a 39) :: Value.ref (a 40) :: Value.int (q 41) :: Value.ref (a 42) :: Value.int (q 43) :: Value.int (q 44) :: []))), ((a 8), .inl (T 0, 24, .inl f8)), ((a 9), .inl (T 0, 24, .inl f9)), ((a 10), .inl (T 0, 24, .inl f10)), ((a 11), .inl (T 0, 24, .inl f11)), ((a 17), .inl (T 0, 24, .inl f17)), ((a 20), .inl (T 1, 672, .inr (.inl f20))), ((a 21), .inl (T 1, 672, .inr (.inl f21))), ((a 22), .inl (T 4, 672, .inl f22))] sz) := by
  refine Met.ofW (cc := cX13_laysChoice) (maxL := 6) (ret := none) (by decide +kernel) rfl ?_
  intro p e s m args below meth c s₁ B hml hv
  obtain ⟨rfl, hsz, hP, hE, hD0⟩ := hv
  have hx := B.exec
  have hb := B.bytes
  have hr := B.returns
  have hts := atoms_spec (ws := wsX13_laysChoice) B.pre
  have hown : s.vm.findClass RX13 = some m.cls := findClass_of_methodNamed B.named
  have hlocks := B.notSynchronized
  subst hsz
  have hD := hD0.self (sz := s.heap.size)
  generalize hAe : va_A [(h0, .inr (10, (Value.int (q 0) :: Value.int (q 1) :: Value.int (q 2) :: Value.int (q 3) :: Value.int (q 4) :: Value.int (q 5) :: Value.int (q 6) :: Value.int (q 7) :: Value.ref (a 8) :: Value.ref (a 9) :: Value.ref (a 10) :: Value.ref (a 11) :: Value.ref (a 12) :: Value.ref (a 13) :: Value.int (q 14) :: Value.long v :: Value.long w :: Value.ref (a 17) :: Value.ref (a 18) :: Value.ref (a 19) :: Value.ref (a 20) :: Value.ref (a 21) :: Value.ref (a 22) :: Value.ref (a 23) :: Value.int (q 24) :: Value.ref (a 25) :: Value.int (q 26) :: Value.ref (a 27) :: Value.int (q 28) :: Value.int (q 29) :: Value.int (q 30) :: Value.int (q 31) :: Value.int (q 32) :: Value.int (q 33) :: Value.ref (a 34) :: Value.ref (a 35) :: Value.ref (a 36) :: Value.ref (a 37) :: Value.ref (a 38) :: Value.ref (a 39) :: Value.ref (a 40) :: Value.int (q 41) :: Value.ref (a 42) :: Value.int (q 43) :: Value.int (q 44) :: []))), ((a 8), .inl (T 0, 24, .inl f8)), ((a 9), .inl (T 0, 24, .inl f9)), ((a 10), .inl (T 0, 24, .inl f10)), ((a 11), .inl (T 0, 24, .inl f11)), ((a 17), .inl (T 0, 24, .inl f17)), ((a 20), .inl (T 1, 672, .inr (.inl f20))), ((a 21), .inl (T 1, 672, .inr (.inl f21))), ((a 22), .inl (T 4, 672, .inl f22))] s.heap.size = A at hD ⊢
  have hA : ∀ q : Nat, s.heap.size ≤ q → A q := fun q h => by rw [← hAe]; exact Or.inr h
  have hS : va_S A s.heap s.heap [] := va_S.rf
  have hP : va_P D vwCl [(h0, .inr (10, (Value.int (q 0) :: Value.int (q 1) :: Value.int (q 2) :: Value.int (q 3) :: Value.int (q 4) :: Value.int (q 5) :: Value.int (q 6) :: Value.int (q 7) :: Value.ref (a 8) :: Value.ref (a 9) :: Value.ref (a 10) :: Value.ref (a 11) :: Value.ref (a 12) :: Value.ref (a 13) :: Value.int (q 14) :: Value.long v :: Value.long w :: Value.ref (a 17) :: Value.ref (a 18) :: Value.ref (a 19) :: Value.ref (a 20) :: Value.ref (a 21) :: Value.ref (a 22) :: Value.ref (a 23) :: Value.int (q 24) :: Value.ref (a 25) :: Value.int (q 26) :: Value.ref (a 27) :: Value.int (q 28) :: Value.int (q 29) :: Value.int (q 30) :: Value.int (q 31) :: Value.int (q 32) :: Value.int (q 33) :: Value.ref (a 34) :: Value.ref (a 35) :: Value.ref (a 36) :: Value.ref (a 37) :: Value.ref (a 38) :: Value.ref (a 39) :: Value.ref (a 40) :: Value.int (q 41) :: Value.ref (a 42) :: Value.int (q 43) :: Value.int (q 44) :: []))), ((a 8), .inl (T 0, 24, .inl f8)), ((a 9), .inl (T 0, 24, .inl f9)), ((a 10), .inl (T 0, 24, .inl f10)), ((a 11), .inl (T 0, 24, .inl f11)), ((a 17), .inl (T 0, 24, .inl f17)), ((a 20), .inl (T 1, 672, .inr (.inl f20))), ((a 21), .inl (T 1, 672, .inr (.inl f21))), ((a 22), .inl (T 4, 672, .inl f22))] s.heap := hP
  have hl := lv_entry ([.ref h0, .int x1, .int x2, .int x3]) (n := 6) (Nat.le_of_ble_eq_true rfl)
  rw [lg_entry_eq]
  generalize (lg_sl ([.ref h0, .int x1, .int x2, .int x3]) ++ List.replicate (6 - (lg_sl ([.ref h0, .int x1, .int x2, .int x3])).length) Slot.unset).toArray = ls at hl ⊢
  have hl : lv_has ls 6 [(0, .ref h0), (1, .int x1), (2, .int x2), (3, .int x3)] := hl
  clear hD0
  have ht := tri_in (d := x2.toInt) (by omega)
  have tk9 := tn (x := f8 (x1.toNatClampNeg)) (by omega)
  refine lv_aload_n hx hb dX13_laysChoice_0 rfl (lv_at hl 0 rfl) ?_
  refine va_get (D := D) (ci := 10) (v := .ref (a 10)) (C := RX13) (T := TX13) (N := 45) hx hb hts in_X13_laysChoice_X13 hown hE.1 hP 0 rfl rfl 10 (by decide +kernel) (hts (.fieldLink RX13 35 "ClauseBookModel" "one" "[I") (List.mem_of_getElem? (i := 1) rfl)) (fun _ h9 => h9) rfl dX13_laysChoice_1 ?_
  refine lv_iload_n hx hb dX13_laysChoice_4 rfl (lv_at hl 1 rfl) ?_
  refine va_iald hx hb hE.1 hP 3 0 rfl rfl (by rw [vp_in_iff]; first | omega | (subst_vars; omega)) dX13_laysChoice_5 ?_
  refine lv_topi (fun z_1 ez_1 => ?_)
  refine lv_istore (lv' := [(4, .int z_1), (0, .ref h0), (1, .int x1), (2, .int x2), (3, .int x3)]) hx hb dX13_laysChoice_6 hl (by decide +kernel) rfl (fun ls hl => ?_)
  have htz_1 : z_1.toInt = (f10 (x1.toNatClampNeg)).toInt := by rw [ez_1]
  refine lv_aload_n hx hb dX13_laysChoice_8 rfl (lv_at hl 1 rfl) ?_
  refine va_get (D := D) (ci := 10) (v := .ref (a 11)) (C := RX13) (T := TX13) (N := 45) hx hb hts in_X13_laysChoice_X13 hown hE.1 hP 0 rfl rfl 11 (by decide +kernel) (hts (.fieldLink RX13 38 "ClauseBookModel" "two" "[I") (List.mem_of_getElem? (i := 2) rfl)) (fun _ h9 => h9) rfl dX13_laysChoice_9 ?_
  refine lv_iload_n hx hb dX13_laysChoice_12 rfl (lv_at hl 2 rfl) ?_
  refine va_iald hx hb hE.1 hP 4 0 rfl rfl (by rw [vp_in_iff]; first | omega | (subst_vars; omega)) dX13_laysChoice_13 ?_
  refine lv_topi (fun z_2 ez_2 => ?_)
  refine lv_istore (lv' := [(5, .int z_2), (4, .int z_1), (0, .ref h0), (1, .int x1), (2, .int x2), (3, .int x3)]) hx hb dX13_laysChoice_14 hl (by decide +kernel) rfl (fun ls hl => ?_)
  have htz_2 : z_2.toInt = (f11 (x1.toNatClampNeg)).toInt := by rw [ez_2]
  refine lv_iload_n hx hb dX13_laysChoice_16 rfl (lv_at hl 4 rfl) ?_
  refine lv_aload_n hx hb dX13_laysChoice_17 rfl (lv_at hl 2 rfl) ?_
  refine va_get (D := D) (ci := 10) (v := .ref (a 17)) (C := RX13) (T := TX13) (N := 45) hx hb hts in_X13_laysChoice_X13 hown hE.1 hP 0 rfl rfl 17 (by decide +kernel) (hts (.fieldLink RX13 47 "ClauseBookModel" "end" "[I") (List.mem_of_getElem? (i := 3) rfl)) (fun _ h9 => h9) rfl dX13_laysChoice_18 ?_
  refine lv_iload hx hb dX13_laysChoice_21 (lv_at hl 1 rfl) ?_
  refine va_iald hx hb hE.1 hP 5 0 rfl rfl (by rw [vp_in_iff]; first | omega | (subst_vars; omega)) dX13_laysChoice_23 ?_
  refine lv_topi (fun z_3 ez_3 => ?_)
  have hzz_3 : z_3.toInt = (f17 ((f10 (x1.toNatClampNeg)).toNatClampNeg)).toInt := by rw [ez_3, ez_1]
  refine lv_icmp_gt (tgt := 38) hx hb dX13_laysChoice_24 (by decide +kernel) (fun c_4 => ?_) (fun c_4 => ?_)
  · rw [fa_lt] at c_4
    refine lv_aload_n hx hb dX13_laysChoice_38 rfl (lv_at hl 2 rfl) ?_
    refine lv_iload_n hx hb dX13_laysChoice_39 rfl (lv_at hl 4 rfl) ?_
    refine lv_aload_n hx hb dX13_laysChoice_40 rfl (lv_at hl 2 rfl) ?_
    refine va_get (D := D) (ci := 10) (v := .ref (a 17)) (C := RX13) (T := TX13) (N := 45) hx hb hts in_X13_laysChoice_X13 hown hE.1 hP 0 rfl rfl 17 (by decide +kernel) (hts (.fieldLink RX13 47 "ClauseBookModel" "end" "[I") (List.mem_of_getElem? (i := 3) rfl)) (fun _ h9 => h9) rfl dX13_laysChoice_41 ?_
    refine lv_iload hx hb dX13_laysChoice_44 (lv_at hl 1 rfl) ?_
    refine va_iald hx hb hE.1 hP 5 0 rfl rfl (by rw [vp_in_iff]; first | omega | (subst_vars; omega)) dX13_laysChoice_46 ?_
    refine lv_topi (fun z_5 ez_5 => ?_)
    have hzz_5 : z_5.toInt = (f17 ((f10 (x1.toNatClampNeg)).toNatClampNeg)).toInt := by rw [ez_5, ez_1]
    refine lv_icmp_le (tgt := 55) hx hb dX13_laysChoice_47 (by decide +kernel) (fun c_6 => ?_) (fun c_6 => ?_)
    · rw [fa_le] at c_6
      refine lv_iload hx hb dX13_laysChoice_55 (lv_at hl 1 rfl) ?_
      refine lv_iload_n hx hb dX13_laysChoice_57 rfl (lv_at hl 4 rfl) ?_
      refine lv_iload_n hx hb dX13_laysChoice_58 rfl (lv_at hl 5 rfl) ?_
      have hFc := va_free (wc := [(h0, .inr (10, (Value.int (q 0) :: Value.int (q 1) :: Value.int (q 2) :: Value.int (q 3) :: Value.int (q 4) :: Value.int (q 5) :: Value.int (q 6) :: Value.int (q 7) :: Value.ref (a 8) :: Value.ref (a 9) :: Value.ref (a 10) :: Value.ref (a 11) :: Value.ref (a 12) :: Value.ref (a 13) :: Value.int (q 14) :: Value.long v :: Value.long w :: Value.ref (a 17) :: Value.ref (a 18) :: Value.ref (a 19) :: Value.ref (a 20) :: Value.ref (a 21) :: Value.ref (a 22) :: Value.ref (a 23) :: Value.int (q 24) :: Value.ref (a 25) :: Value.int (q 26) :: Value.ref (a 27) :: Value.int (q 28) :: Value.int (q 29) :: Value.int (q 30) :: Value.int (q 31) :: Value.int (q 32) :: Value.int (q 33) :: Value.ref (a 34) :: Value.ref (a 35) :: Value.ref (a 36) :: Value.ref (a 37) :: Value.ref (a 38) :: Value.ref (a 39) :: Value.ref (a 40) :: Value.int (q 41) :: Value.ref (a 42) :: Value.int (q 43) :: Value.int (q 44) :: []))), ((a 20), .inl (T 1, 672, .inr (.inl f20))), ((a 21), .inl (T 1, 672, .inr (.inl f21))), ((a 22), .inl (T 4, 672, .inl f22))]) hD hS hA [0, 6, 7, 8] rfl
      refine va_callv (va_runV (As := [.int z_1, .int x2, .int x3]) (rest := []) ⟨hx, hb, hml, hown, hts⟩ (c_X13_takes l D T _ h0 q v w a f20 f21 f22 z_1 x2 x3 (show isB (q 14) from hB) (show ∀ j : Nat, isB (f22 j) from hZ) (show 0 ≤ z_1.toInt ∧ z_1.toInt < 24 from (by omega)) (show 0 ≤ x2.toInt ∧ x2.toInt ≤ 6 from (by omega)) (show 0 ≤ x3.toInt ∧ x3.toInt ≤ x2.toInt from (by omega)) (show ∀ j : Nat, (j : Int) = 28 * z_1.toInt + tri x2.toInt + x3.toInt → 1 ≤ (f21 j).toInt from (fun j hj => hWB1 j (by omega)))) (cwV 3 hts gX13_laysChoice_X13_takes rfl rfl rfl hv_X13_takes ⟨Nat.le_of_ble_eq_true rfl, Nat.le_of_ble_eq_true rfl⟩) (pW_V (q := (RX13, TX13, 45)) (ci := 10) (q0 := 0) hP hE hD rfl rfl [0, 6, 7, 8] (by decide +kernel) rfl rfl) rfl rfl hl.1 rfl (lv_room (Nat.le_of_ble_eq_true rfl)) dX13_laysChoice_59 ⟨Nat.le_of_ble_eq_true rfl, Nat.le_of_ble_eq_true rfl⟩) hS (fun q _ h => hFc q h) hFc (fun u_8 t H1 locs ht hvm hr_7 hB hz1 hk1 hS => ?_)
      obtain ⟨n_9, l_10, l_11⟩ := u_8
      obtain ⟨hi0_r_7, hi1_r_7, hi2_r_7, hi3_r_7, hi4_r_7⟩ := hr_7
      have hB14_r_7 : isB n_9 := hi0_r_7
      have hj1_r_7 : 1 ≤ l_11.toInt := hi1_r_7
      have hj2_r_7 : (n_9 : Int32).toInt = 0 ↔ (((q 14) : Int32).toInt = 0 ∧ (f22 (slN z_1 x2 x3)).toInt = 0) := hi2_r_7
      have hj3_r_7 : l_10 = f20 (slN z_1 x2 x3) := hi3_r_7
      have hj4_r_7 : l_11 = f21 (slN z_1 x2 x3) := hi4_r_7
      obtain ⟨hP1, hD1⟩ := hB
      rw [ht] at hP1
      obtain ⟨hP, hD⟩ := va_repl [(h0, .inr (10, (Value.int (q 0) :: Value.int (q 1) :: Value.int (q 2) :: Value.int (q 3) :: Value.int (q 4) :: Value.int (q 5) :: Value.int (q 6) :: Value.int (q 7) :: Value.ref (a 8) :: Value.ref (a 9) :: Value.ref (a 10) :: Value.ref (a 11) :: Value.ref (a 12) :: Value.ref (a 13) :: Value.int n_9 :: Value.long l_10 :: Value.long l_11 :: Value.ref (a 17) :: Value.ref (a 18) :: Value.ref (a 19) :: Value.ref (a 20) :: Value.ref (a 21) :: Value.ref (a 22) :: Value.ref (a 23) :: Value.int (q 24) :: Value.ref (a 25) :: Value.int (q 26) :: Value.ref (a 27) :: Value.int (q 28) :: Value.int (q 29) :: Value.int (q 30) :: Value.int (q 31) :: Value.int (q 32) :: Value.int (q 33) :: Value.ref (a 34) :: Value.ref (a 35) :: Value.ref (a 36) :: Value.ref (a 37) :: Value.ref (a 38) :: Value.ref (a 39) :: Value.ref (a 40) :: Value.int (q 41) :: Value.ref (a 42) :: Value.int (q 43) :: Value.int (q 44) :: []))), ((a 8), .inl (T 0, 24, .inl f8)), ((a 9), .inl (T 0, 24, .inl f9)), ((a 10), .inl (T 0, 24, .inl f10)), ((a 11), .inl (T 0, 24, .inl f11)), ((a 17), .inl (T 0, 24, .inl f17)), ((a 20), .inl (T 1, 672, .inr (.inl f20))), ((a 21), .inl (T 1, 672, .inr (.inl f21))), ((a 22), .inl (T 4, 672, .inl f22))] hP hD [0, 6, 7, 8] [0, 6, 7, 8] rfl (by decide +kernel) rfl rfl rfl hk1 hP1
      clear hP1 hD1 hFc
      generalize H1 = H at hP hS ⊢
      refine lv_goto (tgt := 91) hx hb dX13_laysChoice_62 (by decide +kernel) ?_
      exact W.vret hx hb hr (fun t ht hW => ⟨⟨(n_9, l_10, l_11), rfl, ⟨(show isB n_9 from hB14_r_7), (show 1 ≤ l_11.toInt from (by first | omega | (subst_vars; omega))), (show ((q 14) : Int32).toInt = 0 → mpW n_9 l_10 l_11 = stepW (lqW (q 0) (q 1) (q 2) (q 3) (q 4) (q 5) (q 6)) f8 f9 f10 f11 f17 (tabW f20 f21 f22) x1 x2 x3 from (fun h9 => by
                                                            have k1 := tk_mp h9 hj2_r_7 hj3_r_7 hj4_r_7
                                                            rw [ez_1] at k1
                                                            exact lc_c (by omega) (by omega) (by omega) (Or.inr (by omega)) (by omega) k1))⟩, by rw [ht]; exact hP.sub [0, 1, 2, 3, 4, 5, 6, 7, 8] rfl, hD.sub [0, 1, 2, 3, 4, 5, 6, 7, 8] (by decide +kernel) rfl⟩, hS.F ht⟩) hS.2.2 dX13_laysChoice_91
    · rw [fa_le] at c_6
      refine lv_iload hx hb dX13_laysChoice_50 (lv_at hl 0 rfl) ?_
      refine lv_goto (tgt := 57) hx hb dX13_laysChoice_52 (by decide +kernel) ?_
      refine lv_iload_n hx hb dX13_laysChoice_57 rfl (lv_at hl 4 rfl) ?_
      refine lv_iload_n hx hb dX13_laysChoice_58 rfl (lv_at hl 5 rfl) ?_
      have hFc := va_free (wc := [(h0, .inr (10, (Value.int (q 0) :: Value.int (q 1) :: Value.int (q 2) :: Value.int (q 3) :: Value.int (q 4) :: Value.int (q 5) :: Value.int (q 6) :: Value.int (q 7) :: Value.ref (a 8) :: Value.ref (a 9) :: Value.ref (a 10) :: Value.ref (a 11) :: Value.ref (a 12) :: Value.ref (a 13) :: Value.int (q 14) :: Value.long v :: Value.long w :: Value.ref (a 17) :: Value.ref (a 18) :: Value.ref (a 19) :: Value.ref (a 20) :: Value.ref (a 21) :: Value.ref (a 22) :: Value.ref (a 23) :: Value.int (q 24) :: Value.ref (a 25) :: Value.int (q 26) :: Value.ref (a 27) :: Value.int (q 28) :: Value.int (q 29) :: Value.int (q 30) :: Value.int (q 31) :: Value.int (q 32) :: Value.int (q 33) :: Value.ref (a 34) :: Value.ref (a 35) :: Value.ref (a 36) :: Value.ref (a 37) :: Value.ref (a 38) :: Value.ref (a 39) :: Value.ref (a 40) :: Value.int (q 41) :: Value.ref (a 42) :: Value.int (q 43) :: Value.int (q 44) :: []))), ((a 20), .inl (T 1, 672, .inr (.inl f20))), ((a 21), .inl (T 1, 672, .inr (.inl f21))), ((a 22), .inl (T 4, 672, .inl f22))]) hD hS hA [0, 6, 7, 8] rfl
      refine va_callv (va_runV (As := [.int z_2, .int x2, .int x3]) (rest := []) ⟨hx, hb, hml, hown, hts⟩ (c_X13_takes l D T _ h0 q v w a f20 f21 f22 z_2 x2 x3 (show isB (q 14) from hB) (show ∀ j : Nat, isB (f22 j) from hZ) (show 0 ≤ z_2.toInt ∧ z_2.toInt < 24 from (by omega)) (show 0 ≤ x2.toInt ∧ x2.toInt ≤ 6 from (by omega)) (show 0 ≤ x3.toInt ∧ x3.toInt ≤ x2.toInt from (by omega)) (show ∀ j : Nat, (j : Int) = 28 * z_2.toInt + tri x2.toInt + x3.toInt → 1 ≤ (f21 j).toInt from (fun j hj => hWB1 j (by omega)))) (cwV 3 hts gX13_laysChoice_X13_takes rfl rfl rfl hv_X13_takes ⟨Nat.le_of_ble_eq_true rfl, Nat.le_of_ble_eq_true rfl⟩) (pW_V (q := (RX13, TX13, 45)) (ci := 10) (q0 := 0) hP hE hD rfl rfl [0, 6, 7, 8] (by decide +kernel) rfl rfl) rfl rfl hl.1 rfl (lv_room (Nat.le_of_ble_eq_true rfl)) dX13_laysChoice_59 ⟨Nat.le_of_ble_eq_true rfl, Nat.le_of_ble_eq_true rfl⟩) hS (fun q _ h => hFc q h) hFc (fun u_13 t H1 locs ht hvm hr_12 hB hz1 hk1 hS => ?_)
      obtain ⟨n_14, l_15, l_16⟩ := u_13
      obtain ⟨hi0_r_12, hi1_r_12, hi2_r_12, hi3_r_12, hi4_r_12⟩ := hr_12
      have hB14_r_12 : isB n_14 := hi0_r_12
      have hj1_r_12 : 1 ≤ l_16.toInt := hi1_r_12
      have hj2_r_12 : (n_14 : Int32).toInt = 0 ↔ (((q 14) : Int32).toInt = 0 ∧ (f22 (slN z_2 x2 x3)).toInt = 0) := hi2_r_12
      have hj3_r_12 : l_15 = f20 (slN z_2 x2 x3) := hi3_r_12
      have hj4_r_12 : l_16 = f21 (slN z_2 x2 x3) := hi4_r_12
      obtain ⟨hP1, hD1⟩ := hB
      rw [ht] at hP1
      obtain ⟨hP, hD⟩ := va_repl [(h0, .inr (10, (Value.int (q 0) :: Value.int (q 1) :: Value.int (q 2) :: Value.int (q 3) :: Value.int (q 4) :: Value.int (q 5) :: Value.int (q 6) :: Value.int (q 7) :: Value.ref (a 8) :: Value.ref (a 9) :: Value.ref (a 10) :: Value.ref (a 11) :: Value.ref (a 12) :: Value.ref (a 13) :: Value.int n_14 :: Value.long l_15 :: Value.long l_16 :: Value.ref (a 17) :: Value.ref (a 18) :: Value.ref (a 19) :: Value.ref (a 20) :: Value.ref (a 21) :: Value.ref (a 22) :: Value.ref (a 23) :: Value.int (q 24) :: Value.ref (a 25) :: Value.int (q 26) :: Value.ref (a 27) :: Value.int (q 28) :: Value.int (q 29) :: Value.int (q 30) :: Value.int (q 31) :: Value.int (q 32) :: Value.int (q 33) :: Value.ref (a 34) :: Value.ref (a 35) :: Value.ref (a 36) :: Value.ref (a 37) :: Value.ref (a 38) :: Value.ref (a 39) :: Value.ref (a 40) :: Value.int (q 41) :: Value.ref (a 42) :: Value.int (q 43) :: Value.int (q 44) :: []))), ((a 8), .inl (T 0, 24, .inl f8)), ((a 9), .inl (T 0, 24, .inl f9)), ((a 10), .inl (T 0, 24, .inl f10)), ((a 11), .inl (T 0, 24, .inl f11)), ((a 17), .inl (T 0, 24, .inl f17)), ((a 20), .inl (T 1, 672, .inr (.inl f20))), ((a 21), .inl (T 1, 672, .inr (.inl f21))), ((a 22), .inl (T 4, 672, .inl f22))] hP hD [0, 6, 7, 8] [0, 6, 7, 8] rfl (by decide +kernel) rfl rfl rfl hk1 hP1
      clear hP1 hD1 hFc
      generalize H1 = H at hP hS ⊢
      refine lv_goto (tgt := 91) hx hb dX13_laysChoice_62 (by decide +kernel) ?_
      exact W.vret hx hb hr (fun t ht hW => ⟨⟨(n_14, l_15, l_16), rfl, ⟨(show isB n_14 from hB14_r_12), (show 1 ≤ l_16.toInt from (by first | omega | (subst_vars; omega))), (show ((q 14) : Int32).toInt = 0 → mpW n_14 l_15 l_16 = stepW (lqW (q 0) (q 1) (q 2) (q 3) (q 4) (q 5) (q 6)) f8 f9 f10 f11 f17 (tabW f20 f21 f22) x1 x2 x3 from (fun h9 => by
                                                            have k1 := tk_mp h9 hj2_r_12 hj3_r_12 hj4_r_12
                                                            rw [ez_2] at k1
                                                            exact lc_d (by omega) (by omega) (by omega) (by omega) k1))⟩, by rw [ht]; exact hP.sub [0, 1, 2, 3, 4, 5, 6, 7, 8] rfl, hD.sub [0, 1, 2, 3, 4, 5, 6, 7, 8] (by decide +kernel) rfl⟩, hS.F ht⟩) hS.2.2 dX13_laysChoice_91
  · rw [fa_lt] at c_4
    refine lv_iload_n hx hb dX13_laysChoice_27 rfl (lv_at hl 4 rfl) ?_
    refine lv_aload_n hx hb dX13_laysChoice_28 rfl (lv_at hl 2 rfl) ?_
    refine va_get (D := D) (ci := 10) (v := .ref (a 17)) (C := RX13) (T := TX13) (N := 45) hx hb hts in_X13_laysChoice_X13 hown hE.1 hP 0 rfl rfl 17 (by decide +kernel) (hts (.fieldLink RX13 47 "ClauseBookModel" "end" "[I") (List.mem_of_getElem? (i := 3) rfl)) (fun _ h9 => h9) rfl dX13_laysChoice_29 ?_
    refine lv_iload hx hb dX13_laysChoice_32 (lv_at hl 0 rfl) ?_
    refine va_iald hx hb hE.1 hP 5 0 rfl rfl (by rw [vp_in_iff]; first | omega | (subst_vars; omega)) dX13_laysChoice_34 ?_
    refine lv_topi (fun z_17 ez_17 => ?_)
    have hzz_17 : z_17.toInt = (f17 ((f11 (x1.toNatClampNeg)).toNatClampNeg)).toInt := by rw [ez_17, ez_2]
    refine lv_icmp_le (tgt := 65) hx hb dX13_laysChoice_35 (by decide +kernel) (fun c_18 => ?_) (fun c_18 => ?_)
    · rw [fa_le] at c_18
      refine lv_aload_n hx hb dX13_laysChoice_65 rfl (lv_at hl 2 rfl) ?_
      refine lv_iload hx hb dX13_laysChoice_66 (lv_at hl 1 rfl) ?_
      refine lv_iload hx hb dX13_laysChoice_68 (lv_at hl 0 rfl) ?_
      refine lv_iload_n hx hb dX13_laysChoice_70 rfl (lv_at hl 4 rfl) ?_
      refine lv_iload_n hx hb dX13_laysChoice_71 rfl (lv_at hl 5 rfl) ?_
      refine lv_aload_n hx hb dX13_laysChoice_72 rfl (lv_at hl 2 rfl) ?_
      refine va_get (D := D) (ci := 10) (v := .ref (a 8)) (C := RX13) (T := TX13) (N := 45) hx hb hts in_X13_laysChoice_X13 hown hE.1 hP 0 rfl rfl 8 (by decide +kernel) (hts (.fieldLink RX13 28 "ClauseBookModel" "kind" "[I") (List.mem_of_getElem? (i := 4) rfl)) (fun _ h9 => h9) rfl dX13_laysChoice_73 ?_
      refine lv_iload_n hx hb dX13_laysChoice_76 rfl (lv_at hl 3 rfl) ?_
      refine va_iald hx hb hE.1 hP 1 0 rfl rfl (by rw [vp_in_iff]; first | omega | (subst_vars; omega)) dX13_laysChoice_77 ?_
      refine lv_topi (fun z_19 ez_19 => ?_)
      have htz_19 : z_19.toInt = (f8 (x1.toNatClampNeg)).toInt := by rw [ez_19]
      refine lv_bipush (v := 6) hx hb dX13_laysChoice_78 (by decide +kernel) ?_
      refine lv_icmp_ne (tgt := 87) hx hb dX13_laysChoice_80 (by decide +kernel) (fun c_20 => ?_) (fun c_20 => ?_)
      · rw [fa_eq] at c_20
        try rw [ti_6] at c_20
        refine lv_iconst (v := (-1)) hx hb dX13_laysChoice_87 (by decide +kernel) ?_
        have hFc := va_free (wc := [(h0, .inr (10, (Value.int (q 0) :: Value.int (q 1) :: Value.int (q 2) :: Value.int (q 3) :: Value.int (q 4) :: Value.int (q 5) :: Value.int (q 6) :: Value.int (q 7) :: Value.ref (a 8) :: Value.ref (a 9) :: Value.ref (a 10) :: Value.ref (a 11) :: Value.ref (a 12) :: Value.ref (a 13) :: Value.int (q 14) :: Value.long v :: Value.long w :: Value.ref (a 17) :: Value.ref (a 18) :: Value.ref (a 19) :: Value.ref (a 20) :: Value.ref (a 21) :: Value.ref (a 22) :: Value.ref (a 23) :: Value.int (q 24) :: Value.ref (a 25) :: Value.int (q 26) :: Value.ref (a 27) :: Value.int (q 28) :: Value.int (q 29) :: Value.int (q 30) :: Value.int (q 31) :: Value.int (q 32) :: Value.int (q 33) :: Value.ref (a 34) :: Value.ref (a 35) :: Value.ref (a 36) :: Value.ref (a 37) :: Value.ref (a 38) :: Value.ref (a 39) :: Value.ref (a 40) :: Value.int (q 41) :: Value.ref (a 42) :: Value.int (q 43) :: Value.int (q 44) :: []))), ((a 20), .inl (T 1, 672, .inr (.inl f20))), ((a 21), .inl (T 1, 672, .inr (.inl f21))), ((a 22), .inl (T 4, 672, .inl f22))]) hD hS hA [0, 6, 7, 8] rfl
        refine va_callv (va_runV (As := [.int z_1, .int z_2, .int x2, .int x3, .int (-1)]) (rest := []) ⟨hx, hb, hml, hown, hts⟩ (c_X13_takesBest l D T _ h0 q v w a f20 f21 f22 z_1 z_2 x2 x3 (-1) (show isB (q 14) from hB) (show ∀ j : Nat, isB (f22 j) from hZ) (show 0 ≤ z_1.toInt ∧ z_1.toInt < 24 from (by omega)) (show 0 ≤ z_2.toInt ∧ z_2.toInt < 24 from (by omega)) (show 0 ≤ x2.toInt ∧ x2.toInt ≤ 6 from (by omega)) (show 0 ≤ x3.toInt ∧ x3.toInt ≤ x2.toInt from (by omega)) (show ∀ j : Nat, (j : Int) = 28 * z_1.toInt + tri x2.toInt + x3.toInt → 1 ≤ (f21 j).toInt from (fun j hj => hWB1 j (by omega))) (show ∀ j : Nat, (j : Int) = 28 * z_2.toInt + tri x2.toInt + x3.toInt → 1 ≤ (f21 j).toInt from (fun j hj => hWB1 j (by omega))) (show ((-1) : Int32).toInt = 1 ∨ ((-1) : Int32).toInt = -1 from (by first | exact Or.inl (by decide +kernel) | exact Or.inr (by decide +kernel) | omega))) (cwV 5 hts gX13_laysChoice_X13_takesBest rfl rfl rfl hv_X13_takesBest ⟨Nat.le_of_ble_eq_true rfl, Nat.le_of_ble_eq_true rfl⟩) (pW_V (q := (RX13, TX13, 45)) (ci := 10) (q0 := 0) hP hE hD rfl rfl [0, 6, 7, 8] (by decide +kernel) rfl rfl) rfl rfl hl.1 rfl (lv_room (Nat.le_of_ble_eq_true rfl)) dX13_laysChoice_88 ⟨Nat.le_of_ble_eq_true rfl, Nat.le_of_ble_eq_true rfl⟩) hS (fun q _ h => hFc q h) hFc (fun u_22 t H1 locs ht hvm hr_21 hB hz1 hk1 hS => ?_)
        obtain ⟨n_23, l_24, l_25⟩ := u_22
        obtain ⟨hi0_r_21, hi1_r_21, hi2_r_21⟩ := hr_21
        have hB14_r_21 : isB n_23 := hi0_r_21
        have hj1_r_21 : 1 ≤ l_25.toInt := hi1_r_21
        have hj2_r_21 : ((q 14) : Int32).toInt = 0 → mpW n_23 l_24 l_25 = bestW ((tabW f20 f21 f22) z_1 x2 x3) ((tabW f20 f21 f22) z_2 x2 x3) ((-1) : Int32).toInt := hi2_r_21
        obtain ⟨hP1, hD1⟩ := hB
        rw [ht] at hP1
        obtain ⟨hP, hD⟩ := va_repl [(h0, .inr (10, (Value.int (q 0) :: Value.int (q 1) :: Value.int (q 2) :: Value.int (q 3) :: Value.int (q 4) :: Value.int (q 5) :: Value.int (q 6) :: Value.int (q 7) :: Value.ref (a 8) :: Value.ref (a 9) :: Value.ref (a 10) :: Value.ref (a 11) :: Value.ref (a 12) :: Value.ref (a 13) :: Value.int n_23 :: Value.long l_24 :: Value.long l_25 :: Value.ref (a 17) :: Value.ref (a 18) :: Value.ref (a 19) :: Value.ref (a 20) :: Value.ref (a 21) :: Value.ref (a 22) :: Value.ref (a 23) :: Value.int (q 24) :: Value.ref (a 25) :: Value.int (q 26) :: Value.ref (a 27) :: Value.int (q 28) :: Value.int (q 29) :: Value.int (q 30) :: Value.int (q 31) :: Value.int (q 32) :: Value.int (q 33) :: Value.ref (a 34) :: Value.ref (a 35) :: Value.ref (a 36) :: Value.ref (a 37) :: Value.ref (a 38) :: Value.ref (a 39) :: Value.ref (a 40) :: Value.int (q 41) :: Value.ref (a 42) :: Value.int (q 43) :: Value.int (q 44) :: []))), ((a 8), .inl (T 0, 24, .inl f8)), ((a 9), .inl (T 0, 24, .inl f9)), ((a 10), .inl (T 0, 24, .inl f10)), ((a 11), .inl (T 0, 24, .inl f11)), ((a 17), .inl (T 0, 24, .inl f17)), ((a 20), .inl (T 1, 672, .inr (.inl f20))), ((a 21), .inl (T 1, 672, .inr (.inl f21))), ((a 22), .inl (T 4, 672, .inl f22))] hP hD [0, 6, 7, 8] [0, 6, 7, 8] rfl (by decide +kernel) rfl rfl rfl hk1 hP1
        clear hP1 hD1 hFc
        generalize H1 = H at hP hS ⊢
        exact W.vret hx hb hr (fun t ht hW => ⟨⟨(n_23, l_24, l_25), rfl, ⟨(show isB n_23 from hB14_r_21), (show 1 ≤ l_25.toInt from (by first | omega | (subst_vars; omega))), (show ((q 14) : Int32).toInt = 0 → mpW n_23 l_24 l_25 = stepW (lqW (q 0) (q 1) (q 2) (q 3) (q 4) (q 5) (q 6)) f8 f9 f10 f11 f17 (tabW f20 f21 f22) x1 x2 x3 from (fun h9 => by
                                                            have k1 := hj2_r_21 h9
                                                            rw [ez_1, ez_2] at k1
                                                            exact lc_b (by omega) (by omega) (by omega) (by omega) (by omega) (hLw.1 _ (by omega) (by omega)) (hLw.1 _ (by omega) (by omega)) (by first | exact Or.inl ⟨by omega, by decide⟩ | exact Or.inr ⟨by omega, by decide⟩) k1))⟩, by rw [ht]; exact hP.sub [0, 1, 2, 3, 4, 5, 6, 7, 8] rfl, hD.sub [0, 1, 2, 3, 4, 5, 6, 7, 8] (by decide +kernel) rfl⟩, hS.F ht⟩) hS.2.2 dX13_laysChoice_91
      · rw [fa_eq] at c_20
        try rw [ti_6] at c_20
        refine lv_iconst (v := 1) hx hb dX13_laysChoice_83 (by decide +kernel) ?_
        refine lv_goto (tgt := 88) hx hb dX13_laysChoice_84 (by decide +kernel) ?_
        have hFc := va_free (wc := [(h0, .inr (10, (Value.int (q 0) :: Value.int (q 1) :: Value.int (q 2) :: Value.int (q 3) :: Value.int (q 4) :: Value.int (q 5) :: Value.int (q 6) :: Value.int (q 7) :: Value.ref (a 8) :: Value.ref (a 9) :: Value.ref (a 10) :: Value.ref (a 11) :: Value.ref (a 12) :: Value.ref (a 13) :: Value.int (q 14) :: Value.long v :: Value.long w :: Value.ref (a 17) :: Value.ref (a 18) :: Value.ref (a 19) :: Value.ref (a 20) :: Value.ref (a 21) :: Value.ref (a 22) :: Value.ref (a 23) :: Value.int (q 24) :: Value.ref (a 25) :: Value.int (q 26) :: Value.ref (a 27) :: Value.int (q 28) :: Value.int (q 29) :: Value.int (q 30) :: Value.int (q 31) :: Value.int (q 32) :: Value.int (q 33) :: Value.ref (a 34) :: Value.ref (a 35) :: Value.ref (a 36) :: Value.ref (a 37) :: Value.ref (a 38) :: Value.ref (a 39) :: Value.ref (a 40) :: Value.int (q 41) :: Value.ref (a 42) :: Value.int (q 43) :: Value.int (q 44) :: []))), ((a 20), .inl (T 1, 672, .inr (.inl f20))), ((a 21), .inl (T 1, 672, .inr (.inl f21))), ((a 22), .inl (T 4, 672, .inl f22))]) hD hS hA [0, 6, 7, 8] rfl
        refine va_callv (va_runV (As := [.int z_1, .int z_2, .int x2, .int x3, .int 1]) (rest := []) ⟨hx, hb, hml, hown, hts⟩ (c_X13_takesBest l D T _ h0 q v w a f20 f21 f22 z_1 z_2 x2 x3 1 (show isB (q 14) from hB) (show ∀ j : Nat, isB (f22 j) from hZ) (show 0 ≤ z_1.toInt ∧ z_1.toInt < 24 from (by omega)) (show 0 ≤ z_2.toInt ∧ z_2.toInt < 24 from (by omega)) (show 0 ≤ x2.toInt ∧ x2.toInt ≤ 6 from (by omega)) (show 0 ≤ x3.toInt ∧ x3.toInt ≤ x2.toInt from (by omega)) (show ∀ j : Nat, (j : Int) = 28 * z_1.toInt + tri x2.toInt + x3.toInt → 1 ≤ (f21 j).toInt from (fun j hj => hWB1 j (by omega))) (show ∀ j : Nat, (j : Int) = 28 * z_2.toInt + tri x2.toInt + x3.toInt → 1 ≤ (f21 j).toInt from (fun j hj => hWB1 j (by omega))) (show (1 : Int32).toInt = 1 ∨ (1 : Int32).toInt = -1 from (by first | exact Or.inl (by decide +kernel) | exact Or.inr (by decide +kernel) | omega))) (cwV 5 hts gX13_laysChoice_X13_takesBest rfl rfl rfl hv_X13_takesBest ⟨Nat.le_of_ble_eq_true rfl, Nat.le_of_ble_eq_true rfl⟩) (pW_V (q := (RX13, TX13, 45)) (ci := 10) (q0 := 0) hP hE hD rfl rfl [0, 6, 7, 8] (by decide +kernel) rfl rfl) rfl rfl hl.1 rfl (lv_room (Nat.le_of_ble_eq_true rfl)) dX13_laysChoice_88 ⟨Nat.le_of_ble_eq_true rfl, Nat.le_of_ble_eq_true rfl⟩) hS (fun q _ h => hFc q h) hFc (fun u_27 t H1 locs ht hvm hr_26 hB hz1 hk1 hS => ?_)
        obtain ⟨n_28, l_29, l_30⟩ := u_27
        obtain ⟨hi0_r_26, hi1_r_26, hi2_r_26⟩ := hr_26
        have hB14_r_26 : isB n_28 := hi0_r_26
        have hj1_r_26 : 1 ≤ l_30.toInt := hi1_r_26
        have hj2_r_26 : ((q 14) : Int32).toInt = 0 → mpW n_28 l_29 l_30 = bestW ((tabW f20 f21 f22) z_1 x2 x3) ((tabW f20 f21 f22) z_2 x2 x3) (1 : Int32).toInt := hi2_r_26
        obtain ⟨hP1, hD1⟩ := hB
        rw [ht] at hP1
        obtain ⟨hP, hD⟩ := va_repl [(h0, .inr (10, (Value.int (q 0) :: Value.int (q 1) :: Value.int (q 2) :: Value.int (q 3) :: Value.int (q 4) :: Value.int (q 5) :: Value.int (q 6) :: Value.int (q 7) :: Value.ref (a 8) :: Value.ref (a 9) :: Value.ref (a 10) :: Value.ref (a 11) :: Value.ref (a 12) :: Value.ref (a 13) :: Value.int n_28 :: Value.long l_29 :: Value.long l_30 :: Value.ref (a 17) :: Value.ref (a 18) :: Value.ref (a 19) :: Value.ref (a 20) :: Value.ref (a 21) :: Value.ref (a 22) :: Value.ref (a 23) :: Value.int (q 24) :: Value.ref (a 25) :: Value.int (q 26) :: Value.ref (a 27) :: Value.int (q 28) :: Value.int (q 29) :: Value.int (q 30) :: Value.int (q 31) :: Value.int (q 32) :: Value.int (q 33) :: Value.ref (a 34) :: Value.ref (a 35) :: Value.ref (a 36) :: Value.ref (a 37) :: Value.ref (a 38) :: Value.ref (a 39) :: Value.ref (a 40) :: Value.int (q 41) :: Value.ref (a 42) :: Value.int (q 43) :: Value.int (q 44) :: []))), ((a 8), .inl (T 0, 24, .inl f8)), ((a 9), .inl (T 0, 24, .inl f9)), ((a 10), .inl (T 0, 24, .inl f10)), ((a 11), .inl (T 0, 24, .inl f11)), ((a 17), .inl (T 0, 24, .inl f17)), ((a 20), .inl (T 1, 672, .inr (.inl f20))), ((a 21), .inl (T 1, 672, .inr (.inl f21))), ((a 22), .inl (T 4, 672, .inl f22))] hP hD [0, 6, 7, 8] [0, 6, 7, 8] rfl (by decide +kernel) rfl rfl rfl hk1 hP1
        clear hP1 hD1 hFc
        generalize H1 = H at hP hS ⊢
        exact W.vret hx hb hr (fun t ht hW => ⟨⟨(n_28, l_29, l_30), rfl, ⟨(show isB n_28 from hB14_r_26), (show 1 ≤ l_30.toInt from (by first | omega | (subst_vars; omega))), (show ((q 14) : Int32).toInt = 0 → mpW n_28 l_29 l_30 = stepW (lqW (q 0) (q 1) (q 2) (q 3) (q 4) (q 5) (q 6)) f8 f9 f10 f11 f17 (tabW f20 f21 f22) x1 x2 x3 from (fun h9 => by
                                                            have k1 := hj2_r_26 h9
                                                            rw [ez_1, ez_2] at k1
                                                            exact lc_b (by omega) (by omega) (by omega) (by omega) (by omega) (hLw.1 _ (by omega) (by omega)) (hLw.1 _ (by omega) (by omega)) (by first | exact Or.inl ⟨by omega, by decide⟩ | exact Or.inr ⟨by omega, by decide⟩) k1))⟩, by rw [ht]; exact hP.sub [0, 1, 2, 3, 4, 5, 6, 7, 8] rfl, hD.sub [0, 1, 2, 3, 4, 5, 6, 7, 8] (by decide +kernel) rfl⟩, hS.F ht⟩) hS.2.2 dX13_laysChoice_91
    · rw [fa_le] at c_18
      refine lv_aload_n hx hb dX13_laysChoice_38 rfl (lv_at hl 2 rfl) ?_
      refine lv_iload_n hx hb dX13_laysChoice_39 rfl (lv_at hl 4 rfl) ?_
      refine lv_aload_n hx hb dX13_laysChoice_40 rfl (lv_at hl 2 rfl) ?_
      refine va_get (D := D) (ci := 10) (v := .ref (a 17)) (C := RX13) (T := TX13) (N := 45) hx hb hts in_X13_laysChoice_X13 hown hE.1 hP 0 rfl rfl 17 (by decide +kernel) (hts (.fieldLink RX13 47 "ClauseBookModel" "end" "[I") (List.mem_of_getElem? (i := 3) rfl)) (fun _ h9 => h9) rfl dX13_laysChoice_41 ?_
      refine lv_iload hx hb dX13_laysChoice_44 (lv_at hl 1 rfl) ?_
      refine va_iald hx hb hE.1 hP 5 0 rfl rfl (by rw [vp_in_iff]; first | omega | (subst_vars; omega)) dX13_laysChoice_46 ?_
      refine lv_topi (fun z_31 ez_31 => ?_)
      have hzz_31 : z_31.toInt = (f17 ((f10 (x1.toNatClampNeg)).toNatClampNeg)).toInt := by rw [ez_31, ez_1]
      refine lv_icmp_le (tgt := 55) hx hb dX13_laysChoice_47 (by decide +kernel) (fun c_32 => ?_) (fun c_32 => ?_)
      · rw [fa_le] at c_32
        refine lv_iload hx hb dX13_laysChoice_55 (lv_at hl 1 rfl) ?_
        refine lv_iload_n hx hb dX13_laysChoice_57 rfl (lv_at hl 4 rfl) ?_
        refine lv_iload_n hx hb dX13_laysChoice_58 rfl (lv_at hl 5 rfl) ?_
        have hFc := va_free (wc := [(h0, .inr (10, (Value.int (q 0) :: Value.int (q 1) :: Value.int (q 2) :: Value.int (q 3) :: Value.int (q 4) :: Value.int (q 5) :: Value.int (q 6) :: Value.int (q 7) :: Value.ref (a 8) :: Value.ref (a 9) :: Value.ref (a 10) :: Value.ref (a 11) :: Value.ref (a 12) :: Value.ref (a 13) :: Value.int (q 14) :: Value.long v :: Value.long w :: Value.ref (a 17) :: Value.ref (a 18) :: Value.ref (a 19) :: Value.ref (a 20) :: Value.ref (a 21) :: Value.ref (a 22) :: Value.ref (a 23) :: Value.int (q 24) :: Value.ref (a 25) :: Value.int (q 26) :: Value.ref (a 27) :: Value.int (q 28) :: Value.int (q 29) :: Value.int (q 30) :: Value.int (q 31) :: Value.int (q 32) :: Value.int (q 33) :: Value.ref (a 34) :: Value.ref (a 35) :: Value.ref (a 36) :: Value.ref (a 37) :: Value.ref (a 38) :: Value.ref (a 39) :: Value.ref (a 40) :: Value.int (q 41) :: Value.ref (a 42) :: Value.int (q 43) :: Value.int (q 44) :: []))), ((a 20), .inl (T 1, 672, .inr (.inl f20))), ((a 21), .inl (T 1, 672, .inr (.inl f21))), ((a 22), .inl (T 4, 672, .inl f22))]) hD hS hA [0, 6, 7, 8] rfl
        refine va_callv (va_runV (As := [.int z_1, .int x2, .int x3]) (rest := []) ⟨hx, hb, hml, hown, hts⟩ (c_X13_takes l D T _ h0 q v w a f20 f21 f22 z_1 x2 x3 (show isB (q 14) from hB) (show ∀ j : Nat, isB (f22 j) from hZ) (show 0 ≤ z_1.toInt ∧ z_1.toInt < 24 from (by omega)) (show 0 ≤ x2.toInt ∧ x2.toInt ≤ 6 from (by omega)) (show 0 ≤ x3.toInt ∧ x3.toInt ≤ x2.toInt from (by omega)) (show ∀ j : Nat, (j : Int) = 28 * z_1.toInt + tri x2.toInt + x3.toInt → 1 ≤ (f21 j).toInt from (fun j hj => hWB1 j (by omega)))) (cwV 3 hts gX13_laysChoice_X13_takes rfl rfl rfl hv_X13_takes ⟨Nat.le_of_ble_eq_true rfl, Nat.le_of_ble_eq_true rfl⟩) (pW_V (q := (RX13, TX13, 45)) (ci := 10) (q0 := 0) hP hE hD rfl rfl [0, 6, 7, 8] (by decide +kernel) rfl rfl) rfl rfl hl.1 rfl (lv_room (Nat.le_of_ble_eq_true rfl)) dX13_laysChoice_59 ⟨Nat.le_of_ble_eq_true rfl, Nat.le_of_ble_eq_true rfl⟩) hS (fun q _ h => hFc q h) hFc (fun u_34 t H1 locs ht hvm hr_33 hB hz1 hk1 hS => ?_)
        obtain ⟨n_35, l_36, l_37⟩ := u_34
        obtain ⟨hi0_r_33, hi1_r_33, hi2_r_33, hi3_r_33, hi4_r_33⟩ := hr_33
        have hB14_r_33 : isB n_35 := hi0_r_33
        have hj1_r_33 : 1 ≤ l_37.toInt := hi1_r_33
        have hj2_r_33 : (n_35 : Int32).toInt = 0 ↔ (((q 14) : Int32).toInt = 0 ∧ (f22 (slN z_1 x2 x3)).toInt = 0) := hi2_r_33
        have hj3_r_33 : l_36 = f20 (slN z_1 x2 x3) := hi3_r_33
        have hj4_r_33 : l_37 = f21 (slN z_1 x2 x3) := hi4_r_33
        obtain ⟨hP1, hD1⟩ := hB
        rw [ht] at hP1
        obtain ⟨hP, hD⟩ := va_repl [(h0, .inr (10, (Value.int (q 0) :: Value.int (q 1) :: Value.int (q 2) :: Value.int (q 3) :: Value.int (q 4) :: Value.int (q 5) :: Value.int (q 6) :: Value.int (q 7) :: Value.ref (a 8) :: Value.ref (a 9) :: Value.ref (a 10) :: Value.ref (a 11) :: Value.ref (a 12) :: Value.ref (a 13) :: Value.int n_35 :: Value.long l_36 :: Value.long l_37 :: Value.ref (a 17) :: Value.ref (a 18) :: Value.ref (a 19) :: Value.ref (a 20) :: Value.ref (a 21) :: Value.ref (a 22) :: Value.ref (a 23) :: Value.int (q 24) :: Value.ref (a 25) :: Value.int (q 26) :: Value.ref (a 27) :: Value.int (q 28) :: Value.int (q 29) :: Value.int (q 30) :: Value.int (q 31) :: Value.int (q 32) :: Value.int (q 33) :: Value.ref (a 34) :: Value.ref (a 35) :: Value.ref (a 36) :: Value.ref (a 37) :: Value.ref (a 38) :: Value.ref (a 39) :: Value.ref (a 40) :: Value.int (q 41) :: Value.ref (a 42) :: Value.int (q 43) :: Value.int (q 44) :: []))), ((a 8), .inl (T 0, 24, .inl f8)), ((a 9), .inl (T 0, 24, .inl f9)), ((a 10), .inl (T 0, 24, .inl f10)), ((a 11), .inl (T 0, 24, .inl f11)), ((a 17), .inl (T 0, 24, .inl f17)), ((a 20), .inl (T 1, 672, .inr (.inl f20))), ((a 21), .inl (T 1, 672, .inr (.inl f21))), ((a 22), .inl (T 4, 672, .inl f22))] hP hD [0, 6, 7, 8] [0, 6, 7, 8] rfl (by decide +kernel) rfl rfl rfl hk1 hP1
        clear hP1 hD1 hFc
        generalize H1 = H at hP hS ⊢
        refine lv_goto (tgt := 91) hx hb dX13_laysChoice_62 (by decide +kernel) ?_
        exact W.vret hx hb hr (fun t ht hW => ⟨⟨(n_35, l_36, l_37), rfl, ⟨(show isB n_35 from hB14_r_33), (show 1 ≤ l_37.toInt from (by first | omega | (subst_vars; omega))), (show ((q 14) : Int32).toInt = 0 → mpW n_35 l_36 l_37 = stepW (lqW (q 0) (q 1) (q 2) (q 3) (q 4) (q 5) (q 6)) f8 f9 f10 f11 f17 (tabW f20 f21 f22) x1 x2 x3 from (fun h9 => by
                                                            have k1 := tk_mp h9 hj2_r_33 hj3_r_33 hj4_r_33
                                                            rw [ez_1] at k1
                                                            exact lc_c (by omega) (by omega) (by omega) (Or.inr (by omega)) (by omega) k1))⟩, by rw [ht]; exact hP.sub [0, 1, 2, 3, 4, 5, 6, 7, 8] rfl, hD.sub [0, 1, 2, 3, 4, 5, 6, 7, 8] (by decide +kernel) rfl⟩, hS.F ht⟩) hS.2.2 dX13_laysChoice_91
      · rw [fa_le] at c_32
        refine lv_iload hx hb dX13_laysChoice_50 (lv_at hl 0 rfl) ?_
        refine lv_goto (tgt := 57) hx hb dX13_laysChoice_52 (by decide +kernel) ?_
        refine lv_iload_n hx hb dX13_laysChoice_57 rfl (lv_at hl 4 rfl) ?_
        refine lv_iload_n hx hb dX13_laysChoice_58 rfl (lv_at hl 5 rfl) ?_
        have hFc := va_free (wc := [(h0, .inr (10, (Value.int (q 0) :: Value.int (q 1) :: Value.int (q 2) :: Value.int (q 3) :: Value.int (q 4) :: Value.int (q 5) :: Value.int (q 6) :: Value.int (q 7) :: Value.ref (a 8) :: Value.ref (a 9) :: Value.ref (a 10) :: Value.ref (a 11) :: Value.ref (a 12) :: Value.ref (a 13) :: Value.int (q 14) :: Value.long v :: Value.long w :: Value.ref (a 17) :: Value.ref (a 18) :: Value.ref (a 19) :: Value.ref (a 20) :: Value.ref (a 21) :: Value.ref (a 22) :: Value.ref (a 23) :: Value.int (q 24) :: Value.ref (a 25) :: Value.int (q 26) :: Value.ref (a 27) :: Value.int (q 28) :: Value.int (q 29) :: Value.int (q 30) :: Value.int (q 31) :: Value.int (q 32) :: Value.int (q 33) :: Value.ref (a 34) :: Value.ref (a 35) :: Value.ref (a 36) :: Value.ref (a 37) :: Value.ref (a 38) :: Value.ref (a 39) :: Value.ref (a 40) :: Value.int (q 41) :: Value.ref (a 42) :: Value.int (q 43) :: Value.int (q 44) :: []))), ((a 20), .inl (T 1, 672, .inr (.inl f20))), ((a 21), .inl (T 1, 672, .inr (.inl f21))), ((a 22), .inl (T 4, 672, .inl f22))]) hD hS hA [0, 6, 7, 8] rfl
        refine va_callv (va_runV (As := [.int z_2, .int x2, .int x3]) (rest := []) ⟨hx, hb, hml, hown, hts⟩ (c_X13_takes l D T _ h0 q v w a f20 f21 f22 z_2 x2 x3 (show isB (q 14) from hB) (show ∀ j : Nat, isB (f22 j) from hZ) (show 0 ≤ z_2.toInt ∧ z_2.toInt < 24 from (by omega)) (show 0 ≤ x2.toInt ∧ x2.toInt ≤ 6 from (by omega)) (show 0 ≤ x3.toInt ∧ x3.toInt ≤ x2.toInt from (by omega)) (show ∀ j : Nat, (j : Int) = 28 * z_2.toInt + tri x2.toInt + x3.toInt → 1 ≤ (f21 j).toInt from (fun j hj => hWB1 j (by omega)))) (cwV 3 hts gX13_laysChoice_X13_takes rfl rfl rfl hv_X13_takes ⟨Nat.le_of_ble_eq_true rfl, Nat.le_of_ble_eq_true rfl⟩) (pW_V (q := (RX13, TX13, 45)) (ci := 10) (q0 := 0) hP hE hD rfl rfl [0, 6, 7, 8] (by decide +kernel) rfl rfl) rfl rfl hl.1 rfl (lv_room (Nat.le_of_ble_eq_true rfl)) dX13_laysChoice_59 ⟨Nat.le_of_ble_eq_true rfl, Nat.le_of_ble_eq_true rfl⟩) hS (fun q _ h => hFc q h) hFc (fun u_39 t H1 locs ht hvm hr_38 hB hz1 hk1 hS => ?_)
        obtain ⟨n_40, l_41, l_42⟩ := u_39
        obtain ⟨hi0_r_38, hi1_r_38, hi2_r_38, hi3_r_38, hi4_r_38⟩ := hr_38
        have hB14_r_38 : isB n_40 := hi0_r_38
        have hj1_r_38 : 1 ≤ l_42.toInt := hi1_r_38
        have hj2_r_38 : (n_40 : Int32).toInt = 0 ↔ (((q 14) : Int32).toInt = 0 ∧ (f22 (slN z_2 x2 x3)).toInt = 0) := hi2_r_38
        have hj3_r_38 : l_41 = f20 (slN z_2 x2 x3) := hi3_r_38
        have hj4_r_38 : l_42 = f21 (slN z_2 x2 x3) := hi4_r_38
        obtain ⟨hP1, hD1⟩ := hB
        rw [ht] at hP1
        obtain ⟨hP, hD⟩ := va_repl [(h0, .inr (10, (Value.int (q 0) :: Value.int (q 1) :: Value.int (q 2) :: Value.int (q 3) :: Value.int (q 4) :: Value.int (q 5) :: Value.int (q 6) :: Value.int (q 7) :: Value.ref (a 8) :: Value.ref (a 9) :: Value.ref (a 10) :: Value.ref (a 11) :: Value.ref (a 12) :: Value.ref (a 13) :: Value.int n_40 :: Value.long l_41 :: Value.long l_42 :: Value.ref (a 17) :: Value.ref (a 18) :: Value.ref (a 19) :: Value.ref (a 20) :: Value.ref (a 21) :: Value.ref (a 22) :: Value.ref (a 23) :: Value.int (q 24) :: Value.ref (a 25) :: Value.int (q 26) :: Value.ref (a 27) :: Value.int (q 28) :: Value.int (q 29) :: Value.int (q 30) :: Value.int (q 31) :: Value.int (q 32) :: Value.int (q 33) :: Value.ref (a 34) :: Value.ref (a 35) :: Value.ref (a 36) :: Value.ref (a 37) :: Value.ref (a 38) :: Value.ref (a 39) :: Value.ref (a 40) :: Value.int (q 41) :: Value.ref (a 42) :: Value.int (q 43) :: Value.int (q 44) :: []))), ((a 8), .inl (T 0, 24, .inl f8)), ((a 9), .inl (T 0, 24, .inl f9)), ((a 10), .inl (T 0, 24, .inl f10)), ((a 11), .inl (T 0, 24, .inl f11)), ((a 17), .inl (T 0, 24, .inl f17)), ((a 20), .inl (T 1, 672, .inr (.inl f20))), ((a 21), .inl (T 1, 672, .inr (.inl f21))), ((a 22), .inl (T 4, 672, .inl f22))] hP hD [0, 6, 7, 8] [0, 6, 7, 8] rfl (by decide +kernel) rfl rfl rfl hk1 hP1
        clear hP1 hD1 hFc
        generalize H1 = H at hP hS ⊢
        refine lv_goto (tgt := 91) hx hb dX13_laysChoice_62 (by decide +kernel) ?_
        exact W.vret hx hb hr (fun t ht hW => ⟨⟨(n_40, l_41, l_42), rfl, ⟨(show isB n_40 from hB14_r_38), (show 1 ≤ l_42.toInt from (by first | omega | (subst_vars; omega))), (show ((q 14) : Int32).toInt = 0 → mpW n_40 l_41 l_42 = stepW (lqW (q 0) (q 1) (q 2) (q 3) (q 4) (q 5) (q 6)) f8 f9 f10 f11 f17 (tabW f20 f21 f22) x1 x2 x3 from (fun h9 => by
                                                            have k1 := tk_mp h9 hj2_r_38 hj3_r_38 hj4_r_38
                                                            rw [ez_2] at k1
                                                            exact lc_d (by omega) (by omega) (by omega) (by omega) k1))⟩, by rw [ht]; exact hP.sub [0, 1, 2, 3, 4, 5, 6, 7, 8] rfl, hD.sub [0, 1, 2, 3, 4, 5, 6, 7, 8] (by decide +kernel) rfl⟩, hS.F ht⟩) hS.2.2 dX13_laysChoice_91
theorem dX13_laysFree_0 : decode cX13_laysFree 0 = .ok (.aload_n 0, 1) := by decide +kernel
theorem dX13_laysFree_1 : decode cX13_laysFree 1 = .ok (.getfield 35, 3) := by decide +kernel
theorem dX13_laysFree_10 : decode cX13_laysFree 10 = .ok (.getfield 47, 3) := by decide +kernel
theorem dX13_laysFree_13 : decode cX13_laysFree 13 = .ok (.iload 4, 2) := by decide +kernel
theorem dX13_laysFree_15 : decode cX13_laysFree 15 = .ok (.iaload, 1) := by decide +kernel
theorem dX13_laysFree_16 : decode cX13_laysFree 16 = .ok (.if_icmp .ne 12, 3) := by decide +kernel
theorem dX13_laysFree_19 : decode cX13_laysFree 19 = .ok (.aload_n 0, 1) := by decide +kernel
theorem dX13_laysFree_20 : decode cX13_laysFree 20 = .ok (.iload 4, 2) := by decide +kernel
theorem dX13_laysFree_22 : decode cX13_laysFree 22 = .ok (.iload_n 2, 1) := by decide +kernel
theorem dX13_laysFree_23 : decode cX13_laysFree 23 = .ok (.iload_n 3, 1) := by decide +kernel
theorem dX13_laysFree_24 : decode cX13_laysFree 24 = .ok (.invokevirtual 243, 3) := by decide +kernel
theorem dX13_laysFree_27 : decode cX13_laysFree 27 = .ok (.return_, 1) := by decide +kernel
theorem dX13_laysFree_28 : decode cX13_laysFree 28 = .ok (.aload_n 0, 1) := by decide +kernel
theorem dX13_laysFree_29 : decode cX13_laysFree 29 = .ok (.iload_n 1, 1) := by decide +kernel
theorem dX13_laysFree_30 : decode cX13_laysFree 30 = .ok (.iload_n 2, 1) := by decide +kernel
theorem dX13_laysFree_31 : decode cX13_laysFree 31 = .ok (.iload_n 3, 1) := by decide +kernel
theorem dX13_laysFree_32 : decode cX13_laysFree 32 = .ok (.invokevirtual 257, 3) := by decide +kernel
theorem dX13_laysFree_35 : decode cX13_laysFree 35 = .ok (.aload_n 0, 1) := by decide +kernel
theorem dX13_laysFree_36 : decode cX13_laysFree 36 = .ok (.getfield 145, 3) := by decide +kernel
theorem dX13_laysFree_39 : decode cX13_laysFree 39 = .ok (.lstore 5, 2) := by decide +kernel
theorem dX13_laysFree_4 : decode cX13_laysFree 4 = .ok (.iload_n 1, 1) := by decide +kernel
theorem dX13_laysFree_41 : decode cX13_laysFree 41 = .ok (.aload_n 0, 1) := by decide +kernel
theorem dX13_laysFree_42 : decode cX13_laysFree 42 = .ok (.getfield 149, 3) := by decide +kernel
theorem dX13_laysFree_45 : decode cX13_laysFree 45 = .ok (.lstore 7, 2) := by decide +kernel
theorem dX13_laysFree_47 : decode cX13_laysFree 47 = .ok (.aload_n 0, 1) := by decide +kernel
theorem dX13_laysFree_48 : decode cX13_laysFree 48 = .ok (.iload 4, 2) := by decide +kernel
theorem dX13_laysFree_5 : decode cX13_laysFree 5 = .ok (.iaload, 1) := by decide +kernel
theorem dX13_laysFree_50 : decode cX13_laysFree 50 = .ok (.iload_n 2, 1) := by decide +kernel
theorem dX13_laysFree_51 : decode cX13_laysFree 51 = .ok (.iload_n 3, 1) := by decide +kernel
theorem dX13_laysFree_52 : decode cX13_laysFree 52 = .ok (.invokevirtual 243, 3) := by decide +kernel
theorem dX13_laysFree_55 : decode cX13_laysFree 55 = .ok (.aload_n 0, 1) := by decide +kernel
theorem dX13_laysFree_56 : decode cX13_laysFree 56 = .ok (.getfield 131, 3) := by decide +kernel
theorem dX13_laysFree_59 : decode cX13_laysFree 59 = .ok (.ifCond .ne 33, 3) := by decide +kernel
theorem dX13_laysFree_6 : decode cX13_laysFree 6 = .ok (.istore 4, 2) := by decide +kernel
theorem dX13_laysFree_62 : decode cX13_laysFree 62 = .ok (.lload 5, 2) := by decide +kernel
theorem dX13_laysFree_64 : decode cX13_laysFree 64 = .ok (.lload 7, 2) := by decide +kernel
theorem dX13_laysFree_66 : decode cX13_laysFree 66 = .ok (.aload_n 0, 1) := by decide +kernel
theorem dX13_laysFree_67 : decode cX13_laysFree 67 = .ok (.getfield 145, 3) := by decide +kernel
theorem dX13_laysFree_70 : decode cX13_laysFree 70 = .ok (.aload_n 0, 1) := by decide +kernel
theorem dX13_laysFree_71 : decode cX13_laysFree 71 = .ok (.getfield 149, 3) := by decide +kernel
theorem dX13_laysFree_74 : decode cX13_laysFree 74 = .ok (.invokestatic 167, 3) := by decide +kernel
theorem dX13_laysFree_77 : decode cX13_laysFree 77 = .ok (.ifCond .le 15, 3) := by decide +kernel
theorem dX13_laysFree_8 : decode cX13_laysFree 8 = .ok (.iload_n 2, 1) := by decide +kernel
theorem dX13_laysFree_80 : decode cX13_laysFree 80 = .ok (.aload_n 0, 1) := by decide +kernel
theorem dX13_laysFree_81 : decode cX13_laysFree 81 = .ok (.lload 5, 2) := by decide +kernel
theorem dX13_laysFree_83 : decode cX13_laysFree 83 = .ok (.putfield 145, 3) := by decide +kernel
theorem dX13_laysFree_86 : decode cX13_laysFree 86 = .ok (.aload_n 0, 1) := by decide +kernel
theorem dX13_laysFree_87 : decode cX13_laysFree 87 = .ok (.lload 7, 2) := by decide +kernel
theorem dX13_laysFree_89 : decode cX13_laysFree 89 = .ok (.putfield 149, 3) := by decide +kernel
theorem dX13_laysFree_9 : decode cX13_laysFree 9 = .ok (.aload_n 0, 1) := by decide +kernel
theorem dX13_laysFree_92 : decode cX13_laysFree 92 = .ok (.return_, 1) := by decide +kernel
set_option maxRecDepth 20000 in
theorem ggX13_laysFree_X13_compared : GoodIn wsX13_laysFree wsX13_compared := goodIn_r _ [52, 53, 54, 55, 56, 50, 51, 9] rfl (by decide +kernel)
set_option maxRecDepth 40000 in
theorem ggX13_laysFree_X13_means_0 : GoodIn wsX13_laysFree [.code yX13_means cX13_means 10 none] := goodIn_r _ [20] rfl (by decide +kernel)
set_option maxRecDepth 40000 in
theorem ggX13_laysFree_X13_means_1 : GoodIn wsX13_laysFree wsX13_means_r1 := goodIn_r _ [21, 3, 4, 22, 23, 24, 6, 7, 8, 9, 10, 5, 11, 12, 13, 14, 15, 16, 25, 26, 27, 28, 29, 30] rfl (by decide +kernel)
set_option maxRecDepth 40000 in
theorem ggX13_laysFree_X13_means_2 : GoodIn wsX13_laysFree wsX13_means_r2 := goodIn_r _ [31, 32, 33, 34, 35, 36, 37, 38, 39, 40, 41, 42, 43, 44, 45, 46, 47, 48, 49] rfl (by decide +kernel)
set_option maxRecDepth 40000 in
theorem ggX13_laysFree_X13_means_3 : GoodIn wsX13_laysFree wsX130 := goodIn_r _ [57, 58, 59, 60, 61, 62, 63, 64, 65, 66, 67, 68, 69, 70, 71, 72, 73, 74, 75, 76, 77, 78, 79, 80, 81, 82, 83, 84, 85, 86, 87, 88, 89, 90, 91, 92, 93, 94, 95, 96, 97, 98, 99, 100, 101] rfl (by decide +kernel)
set_option maxRecDepth 40000 in
theorem ggX13_laysFree_X13_means : GoodIn wsX13_laysFree wsX13_means := (goodIn_app ggX13_laysFree_X13_means_0 (goodIn_app (goodIn_app ggX13_laysFree_X13_means_1 ggX13_laysFree_X13_means_2) ggX13_laysFree_X13_means_3))
set_option maxRecDepth 20000 in
theorem ggX13_laysFree_X13_takes : GoodIn wsX13_laysFree wsX13_takes := goodIn_r _ [10, 5, 11, 12, 3, 13, 4, 14, 15, 9, 16, 57, 58, 59, 60, 61, 62, 63, 64, 65, 66, 67, 68, 69, 70, 71, 72, 73, 74, 75, 76, 77, 78, 79, 80, 81, 82, 83, 84, 85, 86, 87, 88, 89, 90, 91, 92, 93, 94, 95, 96, 97, 98, 99, 100, 101] rfl (by decide +kernel)
set_option maxRecDepth 20000 in
theorem gX13_laysFree_X13_compared : GoodIn wsX13_laysFree (va_wsS RX13 167 yX13_compared wsX13_compared) := goodIn_app (goodIn_of _ (by decide +kernel)) ggX13_laysFree_X13_compared
set_option maxRecDepth 20000 in
theorem gX13_laysFree_X13_means : GoodIn wsX13_laysFree (wsV RX13 257 RX13 yX13_means wsX13_means) := goodIn_app (goodIn_r _ [17, 18, 19, 9] rfl (by decide +kernel)) ggX13_laysFree_X13_means
set_option maxRecDepth 20000 in
theorem gX13_laysFree_X13_takes : GoodIn wsX13_laysFree (wsV RX13 243 RX13 yX13_takes wsX13_takes) := goodIn_app (goodIn_r _ [6, 7, 8, 9] rfl (by decide +kernel)) ggX13_laysFree_X13_takes
theorem hv_X13_means : yX13_means.cls = RX13 ∧ yX13_means.cls ≠ "java/lang/invoke/MethodHandle" ∧ yX13_means.cls ≠ "java/lang/invoke/VarHandle" ∧ (parseMethodDescriptor yX13_means.desc).map (fun d => d.parameters.length) = some 3 := by decide +kernel
set_option maxRecDepth 20000 in
theorem in_X13_laysFree_X13 : ∀ w ∈ wsX130, w ∈ wsX13_laysFree := sub_r [57, 58, 59, 60, 61, 62, 63, 64, 65, 66, 67, 68, 69, 70, 71, 72, 73, 74, 75, 76, 77, 78, 79, 80, 81, 82, 83, 84, 85, 86, 87, 88, 89, 90, 91, 92, 93, 94, 95, 96, 97, 98, 99, 100, 101] rfl
set_option maxHeartbeats 4000000 in
set_option maxRecDepth 100000 in
theorem c_X13_laysFree (l : Launch) (D : va_G) (T : Nat → ClassId) (sz : Nat) (h0 : Nat) (q : Nat → Int32) (v : Int64) (w : Int64) (a : Nat → Nat) (f8 : Nat → Int32) (f9 : Nat → Int32) (f10 : Nat → Int32) (f11 : Nat → Int32) (f17 : Nat → Int32) (f20 : Nat → Int64) (f21 : Nat → Int64) (f22 : Nat → Int32) (x1 : Int32) (x2 : Int32) (x3 : Int32) (hB : isB (q 14)) (hZ : ∀ j : Nat, isB (f22 j)) (hL : (1 ≤ (q 4).toInt ∧ (q 4).toInt ≤ 9) ∧ 1 ≤ (q 6).toInt ∧ (q 6).toInt ≤ 9) (hx1 : 0 ≤ x1.toInt ∧ x1.toInt < 24) (hx2 : 0 ≤ x2.toInt ∧ x2.toInt ≤ 6) (hx3 : 0 ≤ x3.toInt ∧ x3.toInt ≤ x2.toInt) (hc9 : 0 ≤ (f10 (x1.toNatClampNeg)).toInt ∧ (f10 (x1.toNatClampNeg)).toInt < x1.toInt) (hWB1 : ∀ j : Nat, (j : Int) < 28 * x1.toInt → 1 ≤ (f21 j).toInt) (hWB2 : ∀ j : Nat, 28 * x1.toInt + tri (x2.toInt + 1) ≤ j → (j : Int) < 28 * x1.toInt + 28 → 1 ≤ (f21 j).toInt) (he9 : x2.toInt ≠ (f17 ((f10 (x1.toNatClampNeg)).toNatClampNeg)).toInt → x2.toInt ≤ 5) (hkf : (f8 (x1.toNatClampNeg)).toInt = 11) (hfe : (f17 (x1.toNatClampNeg)).toInt = (f17 ((f10 (x1.toNatClampNeg)).toNatClampNeg)).toInt) (hle : x2.toInt ≤ (f17 (x1.toNatClampNeg)).toInt) (hLw : lowS (tabW f20 f21 f22) x1 x2 x3) : Met l yX13_laysFree wsX13_laysFree ({ frames := 130, cells := 0, slots := 0, locals := 5175 }) (pW [.ref h0, .int x1, .int x2, .int x3] D T [(h0, .inr (10, (Value.int (q 0) :: Value.int (q 1) :: Value.int (q 2) :: Value.int (q 3) :: Value.int (q 4) :: Value.int (q 5) :: Value.int (q 6) :: Value.int (q 7) :: Value.ref (a 8) :: Value.ref (a 9) :: Value.ref (a 10) :: Value.ref (a 11) :: Value.ref (a 12) :: Value.ref (a 13) :: Value.int (q 14) :: Value.long v :: Value.long w :: Value.ref (a 17) :: Value.ref (a 18) :: Value.ref (a 19) :: Value.ref (a 20) :: Value.ref (a 21) :: Value.ref (a 22) :: Value.ref (a 23) :: Value.int (q 24) :: Value.ref (a 25) :: Value.int (q 26) :: Value.ref (a 27) :: Value.int (q 28) :: Value.int (q 29) :: Value.int (q 30) :: Value.int (q 31) :: Value.int (q 32) :: Value.int (q 33) :: Value.ref (a 34) :: Value.ref (a 35) :: Value.ref (a 36) :: Value.ref (a 37) :: Value.ref (a 38) :: Value.ref (a 39) :: Value.ref (a 40) :: Value.int (q 41) :: Value.ref (a 42) :: Value.int (q 43) :: Value.int (q 44) :: []))), ((a 8), .inl (T 0, 24, .inl f8)), ((a 9), .inl (T 0, 24, .inl f9)), ((a 10), .inl (T 0, 24, .inl f10)), ((a 11), .inl (T 0, 24, .inl f11)), ((a 17), .inl (T 0, 24, .inl f17)), ((a 20), .inl (T 1, 672, .inr (.inl f20))), ((a 21), .inl (T 1, 672, .inr (.inl f21))), ((a 22), .inl (T 4, 672, .inl f22))] sz) (va_Qv (fun (u : (Int32) × (Int64) × (Int64)) => (isB u.1) ∧ (1 ≤ u.2.2.toInt) ∧ (((q 14) : Int32).toInt = 0 → mpW u.1 u.2.1 u.2.2 = stepW (lqW (q 0) (q 1) (q 2) (q 3) (q 4) (q 5) (q 6)) f8 f9 f10 f11 f17 (tabW f20 f21 f22) x1 x2 x3)) (bW D (va_A [(h0, .inr (10, (Value.int (q 0) :: Value.int (q 1) :: Value.int (q 2) :: Value.int (q 3) :: Value.int (q 4) :: Value.int (q 5) :: Value.int (q 6) :: Value.int (q 7) :: Value.ref (a 8) :: Value.ref (a 9) :: Value.ref (a 10) :: Value.ref (a 11) :: Value.ref (a 12) :: Value.ref (a 13) :: Value.int (q 14) :: Value.long v :: Value.long w :: Value.ref (a 17) :: Value.ref (a 18) :: Value.ref (a 19) :: Value.ref (a 20) :: Value.ref (a 21) :: Value.ref (a 22) :: Value.ref (a 23) :: Value.int (q 24) :: Value.ref (a 25) :: Value.int (q 26) :: Value.ref (a 27) :: Value.int (q 28) :: Value.int (q 29) :: Value.int (q 30) :: Value.int (q 31) :: Value.int (q 32) :: Value.int (q 33) :: Value.ref (a 34) :: Value.ref (a 35) :: Value.ref (a 36) :: Value.ref (a 37) :: Value.ref (a 38) :: Value.ref (a 39) :: Value.ref (a 40) :: Value.int (q 41) :: Value.ref (a 42) :: Value.int (q 43) :: Value.int (q 44) :: []))), ((a 8), .inl (T 0, 24, .inl f8)), ((a 9), .inl (T 0, 24, .inl f9)), ((a 10), .inl (T 0, 24, .inl f10)), ((a 11), .inl (T 0, 24, .inl f11)), ((a 17), .inl (T 0, 24, .inl f17)), ((a 20), .inl (T 1, 672, .inr (.inl f20))), ((a 21), .inl (T 1, 672, .inr (.inl f21))), ((a 22), .inl (T 4, 672, .inl f22))] sz) (fun (u : (Int32) × (Int64) × (Int64)) => [(h0, .inr (10, (Value.int (q 0) :: Value.int (q 1) :: Value.int (q 2) :: Value.int (q 3) :: Value.int (q 4) :: Value.int (q 5) :: Value.int (q 6) :: Value.int (q 7) :: Value.ref (a 8) :: Value.ref (a 9) :: Value.ref (a 10) :: Value.ref (a 11) :: Value.ref (a 12) :: Value.ref (a 13) :: Value.int u.1 :: Value.long u.2.1 :: Value.long u.2.2 :: Value.ref (a 17) :: Value.ref (a 18) :: Value.ref (a 19) :: Value.ref (a 20) :: Value.ref (a 21) :: Value.ref (a 22) :: Value.ref (a 23) :: Value.int (q 24) :: Value.ref (a 25) :: Value.int (q 26) :: Value.ref (a 27) :: Value.int (q 28) :: Value.int (q 29) :: Value.int (q 30) :: Value.int (q 31) :: Value.int (q 32) :: Value.int (q 33) :: Value.ref (a 34) :: Value.ref (a 35) :: Value.ref (a 36) :: Value.ref (a 37) :: Value.ref (a 38) :: Value.ref (a 39) :: Value.ref (a 40) :: Value.int (q 41) :: Value.ref (a 42) :: Value.int (q 43) :: Value.int (q 44) :: []))), ((a 8), .inl (T 0, 24, .inl f8)), ((a 9), .inl (T 0, 24, .inl f9)), ((a 10), .inl (T 0, 24, .inl f10)), ((a 11), .inl (T 0, 24, .inl f11)), ((a 17), .inl (T 0, 24, .inl f17)), ((a 20), .inl (T 1, 672, .inr (.inl f20))), ((a 21), .inl (T 1, 672, .inr (.inl f21))), ((a 22), .inl (T 4, 672, .inl f22))])) (va_A [(h0, .inr (10, (Value.int (q 0) :: Value.int (q 1) :: Value.int (q 2) :: Value.int (q 3) :: Value.int (q 4) :: Value.int (q 5) :: Value.int (q 6) :: Value.int (q 7) :: Value.ref (a 8) :: Value.ref (a 9) :: Value.ref (a 10) :: Value.ref (a 11) :: Value.ref (a 12) :: Value.ref (a 13) :: Value.int (q 14) :: Value.long v :: Value.long w :: Value.ref (a 17) :: Value.ref (a 18) :: Value.ref (a 19) :: Value.ref (a 20) :: Value.ref (a 21) :: Value.ref (a 22) :: Value.ref (a 23) :: Value.int (q 24) :: Value.ref (a 25) :: Value.int (q 26) :: Value.ref (a 27) :: Value.int (q 28) :: Value.int (q 29) :: Value.int (q 30) :: Value.int (q 31) :: Value.int (q 32) :: Value.int (q 33) :: Value.ref (a 34) :: Value.ref (a 35) :: Value.ref (a 36) :: Value.ref (a 37) :: Value.ref (a 38) :: Value.ref (a 39) :: Value.ref (a 40) :: Value.int (q 41) :: Value.ref (a 42) :: Value.int (q 43) :: Value.int (q 44) :: []))), ((a 8), .inl (T 0, 24, .inl f8)), ((a 9), .inl (T 0, 24, .inl f9)), ((a 10), .inl (T 0, 24, .inl f10)), ((a 11), .inl (T 0, 24, .inl f11)), ((a 17), .inl (T 0, 24, .inl f17)), ((a 20), .inl (T 1, 672, .inr (.inl f20))), ((a 21), .inl (T 1, 672, .inr (.inl f21))), ((a 22), .inl (T 4, 672, .inl f22))] sz)) 0 0 (va_A [(h0, .inr (10, (Value.int (q 0) :: Value.int (q 1) :: Value.int (q 2) :: Value.int (q 3) :: Value.int (q 4) :: Value.int (q 5) :: Value.int (q 6) :: Value.int (q 7) :: Value.ref (a 8) :: Value.ref (a 9) :: Value.ref (a 10) :: Value.ref (a 11) :: Value.ref (a 12) :: Value.ref (a 13) :: Value.int (q 14) :: Value.long v :: Value.long w :: Value.ref (a 17) :: Value.ref (a 18) :: Value.ref (a 19) :: Value.ref (a 20) :: Value.ref (a 21) :: Value.ref (a 22) :: Value.ref (a 23) :: Value.int (q 24) :: Value.ref (a 25) :: Value.int (q 26) :: Value.ref (a 27) :: Value.int (q 28) :: Value.int (q 29) :: Value.int (q 30) :: Value.int (q 31) :: Value.int (q 32) :: Value.int (q 33) :: Value.ref (a 34) :: Value.ref (a 35) :: Value.ref (a 36) :: Value.ref (a 37) :: Value.ref (a 38) :: Value.ref (a 39) :: Value.ref (a 40) :: Value.int (q 41) :: Value.ref (a 42) :: Value.int (q 43) :: Value.int (q 44) :: []))), ((a 8), .inl (T 0, 24, .inl f8)), ((a 9), .inl (T 0, 24, .inl f9)), ((a 10), .inl (T 0, 24, .inl f10)), ((a 11), .inl (T 0, 24, .inl f11)), ((a 17), .inl (T 0, 24, .inl f17)), ((a 20), .inl (T 1, 672, .inr (.inl f20))), ((a 21), .inl (T 1, 672, .inr (.inl f21))), ((a 22), .inl (T 4, 672, .inl f22))] sz) := by
  refine Met.ofW (cc := cX13_laysFree) (maxL := 9) (ret := none) (by decide +kernel) rfl ?_
  intro p e s m args below meth c s₁ B hml hv
  obtain ⟨rfl, hsz, hP, hE, hD0⟩ := hv
  have hx := B.exec
  have hb := B.bytes
  have hr := B.returns
  have hts := atoms_spec (ws := wsX13_laysFree) B.pre
  have hown : s.vm.findClass RX13 = some m.cls := findClass_of_methodNamed B.named
  have hlocks := B.notSynchronized
  subst hsz
  have hD := hD0.self (sz := s.heap.size)
  generalize hAe : va_A [(h0, .inr (10, (Value.int (q 0) :: Value.int (q 1) :: Value.int (q 2) :: Value.int (q 3) :: Value.int (q 4) :: Value.int (q 5) :: Value.int (q 6) :: Value.int (q 7) :: Value.ref (a 8) :: Value.ref (a 9) :: Value.ref (a 10) :: Value.ref (a 11) :: Value.ref (a 12) :: Value.ref (a 13) :: Value.int (q 14) :: Value.long v :: Value.long w :: Value.ref (a 17) :: Value.ref (a 18) :: Value.ref (a 19) :: Value.ref (a 20) :: Value.ref (a 21) :: Value.ref (a 22) :: Value.ref (a 23) :: Value.int (q 24) :: Value.ref (a 25) :: Value.int (q 26) :: Value.ref (a 27) :: Value.int (q 28) :: Value.int (q 29) :: Value.int (q 30) :: Value.int (q 31) :: Value.int (q 32) :: Value.int (q 33) :: Value.ref (a 34) :: Value.ref (a 35) :: Value.ref (a 36) :: Value.ref (a 37) :: Value.ref (a 38) :: Value.ref (a 39) :: Value.ref (a 40) :: Value.int (q 41) :: Value.ref (a 42) :: Value.int (q 43) :: Value.int (q 44) :: []))), ((a 8), .inl (T 0, 24, .inl f8)), ((a 9), .inl (T 0, 24, .inl f9)), ((a 10), .inl (T 0, 24, .inl f10)), ((a 11), .inl (T 0, 24, .inl f11)), ((a 17), .inl (T 0, 24, .inl f17)), ((a 20), .inl (T 1, 672, .inr (.inl f20))), ((a 21), .inl (T 1, 672, .inr (.inl f21))), ((a 22), .inl (T 4, 672, .inl f22))] s.heap.size = A at hD ⊢
  have hA : ∀ q : Nat, s.heap.size ≤ q → A q := fun q h => by rw [← hAe]; exact Or.inr h
  have hS : va_S A s.heap s.heap [] := va_S.rf
  have hP : va_P D vwCl [(h0, .inr (10, (Value.int (q 0) :: Value.int (q 1) :: Value.int (q 2) :: Value.int (q 3) :: Value.int (q 4) :: Value.int (q 5) :: Value.int (q 6) :: Value.int (q 7) :: Value.ref (a 8) :: Value.ref (a 9) :: Value.ref (a 10) :: Value.ref (a 11) :: Value.ref (a 12) :: Value.ref (a 13) :: Value.int (q 14) :: Value.long v :: Value.long w :: Value.ref (a 17) :: Value.ref (a 18) :: Value.ref (a 19) :: Value.ref (a 20) :: Value.ref (a 21) :: Value.ref (a 22) :: Value.ref (a 23) :: Value.int (q 24) :: Value.ref (a 25) :: Value.int (q 26) :: Value.ref (a 27) :: Value.int (q 28) :: Value.int (q 29) :: Value.int (q 30) :: Value.int (q 31) :: Value.int (q 32) :: Value.int (q 33) :: Value.ref (a 34) :: Value.ref (a 35) :: Value.ref (a 36) :: Value.ref (a 37) :: Value.ref (a 38) :: Value.ref (a 39) :: Value.ref (a 40) :: Value.int (q 41) :: Value.ref (a 42) :: Value.int (q 43) :: Value.int (q 44) :: []))), ((a 8), .inl (T 0, 24, .inl f8)), ((a 9), .inl (T 0, 24, .inl f9)), ((a 10), .inl (T 0, 24, .inl f10)), ((a 11), .inl (T 0, 24, .inl f11)), ((a 17), .inl (T 0, 24, .inl f17)), ((a 20), .inl (T 1, 672, .inr (.inl f20))), ((a 21), .inl (T 1, 672, .inr (.inl f21))), ((a 22), .inl (T 4, 672, .inl f22))] s.heap := hP
  have hl := lv_entry ([.ref h0, .int x1, .int x2, .int x3]) (n := 9) (Nat.le_of_ble_eq_true rfl)
  rw [lg_entry_eq]
  generalize (lg_sl ([.ref h0, .int x1, .int x2, .int x3]) ++ List.replicate (9 - (lg_sl ([.ref h0, .int x1, .int x2, .int x3])).length) Slot.unset).toArray = ls at hl ⊢
  have hl : lv_has ls 9 [(0, .ref h0), (1, .int x1), (2, .int x2), (3, .int x3)] := hl
  clear hD0
  have ht := tri_in (d := x2.toInt) (by omega)
  have tk9 := tn (x := f8 (x1.toNatClampNeg)) (by omega)
  refine lv_aload_n hx hb dX13_laysFree_0 rfl (lv_at hl 0 rfl) ?_
  refine va_get (D := D) (ci := 10) (v := .ref (a 10)) (C := RX13) (T := TX13) (N := 45) hx hb hts in_X13_laysFree_X13 hown hE.1 hP 0 rfl rfl 10 (by decide +kernel) (hts (.fieldLink RX13 35 "ClauseBookModel" "one" "[I") (List.mem_of_getElem? (i := 1) rfl)) (fun _ h9 => h9) rfl dX13_laysFree_1 ?_
  refine lv_iload_n hx hb dX13_laysFree_4 rfl (lv_at hl 1 rfl) ?_
  refine va_iald hx hb hE.1 hP 3 0 rfl rfl (by rw [vp_in_iff]; first | omega | (subst_vars; omega)) dX13_laysFree_5 ?_
  refine lv_topi (fun z_1 ez_1 => ?_)
  refine lv_istore (lv' := [(4, .int z_1), (0, .ref h0), (1, .int x1), (2, .int x2), (3, .int x3)]) hx hb dX13_laysFree_6 hl (by decide +kernel) rfl (fun ls hl => ?_)
  have htz_1 : z_1.toInt = (f10 (x1.toNatClampNeg)).toInt := by rw [ez_1]
  refine lv_iload_n hx hb dX13_laysFree_8 rfl (lv_at hl 3 rfl) ?_
  refine lv_aload_n hx hb dX13_laysFree_9 rfl (lv_at hl 1 rfl) ?_
  refine va_get (D := D) (ci := 10) (v := .ref (a 17)) (C := RX13) (T := TX13) (N := 45) hx hb hts in_X13_laysFree_X13 hown hE.1 hP 0 rfl rfl 17 (by decide +kernel) (hts (.fieldLink RX13 47 "ClauseBookModel" "end" "[I") (List.mem_of_getElem? (i := 2) rfl)) (fun _ h9 => h9) rfl dX13_laysFree_10 ?_
  refine lv_iload hx hb dX13_laysFree_13 (lv_at hl 0 rfl) ?_
  refine va_iald hx hb hE.1 hP 5 0 rfl rfl (by rw [vp_in_iff]; first | omega | (subst_vars; omega)) dX13_laysFree_15 ?_
  refine lv_topi (fun z_2 ez_2 => ?_)
  have hzz_2 : z_2.toInt = (f17 ((f10 (x1.toNatClampNeg)).toNatClampNeg)).toInt := by rw [ez_2, ez_1]
  refine lv_icmp_ne (tgt := 28) hx hb dX13_laysFree_16 (by decide +kernel) (fun c_3 => ?_) (fun c_3 => ?_)
  · rw [fa_eq] at c_3
    refine lv_aload_n hx hb dX13_laysFree_28 rfl (lv_at hl 1 rfl) ?_
    refine lv_iload_n hx hb dX13_laysFree_29 rfl (lv_at hl 2 rfl) ?_
    refine lv_iload_n hx hb dX13_laysFree_30 rfl (lv_at hl 3 rfl) ?_
    refine lv_iload_n hx hb dX13_laysFree_31 rfl (lv_at hl 4 rfl) ?_
    have hFc := va_free (wc := [(h0, .inr (10, (Value.int (q 0) :: Value.int (q 1) :: Value.int (q 2) :: Value.int (q 3) :: Value.int (q 4) :: Value.int (q 5) :: Value.int (q 6) :: Value.int (q 7) :: Value.ref (a 8) :: Value.ref (a 9) :: Value.ref (a 10) :: Value.ref (a 11) :: Value.ref (a 12) :: Value.ref (a 13) :: Value.int (q 14) :: Value.long v :: Value.long w :: Value.ref (a 17) :: Value.ref (a 18) :: Value.ref (a 19) :: Value.ref (a 20) :: Value.ref (a 21) :: Value.ref (a 22) :: Value.ref (a 23) :: Value.int (q 24) :: Value.ref (a 25) :: Value.int (q 26) :: Value.ref (a 27) :: Value.int (q 28) :: Value.int (q 29) :: Value.int (q 30) :: Value.int (q 31) :: Value.int (q 32) :: Value.int (q 33) :: Value.ref (a 34) :: Value.ref (a 35) :: Value.ref (a 36) :: Value.ref (a 37) :: Value.ref (a 38) :: Value.ref (a 39) :: Value.ref (a 40) :: Value.int (q 41) :: Value.ref (a 42) :: Value.int (q 43) :: Value.int (q 44) :: []))), ((a 20), .inl (T 1, 672, .inr (.inl f20))), ((a 21), .inl (T 1, 672, .inr (.inl f21))), ((a 22), .inl (T 4, 672, .inl f22))]) hD hS hA [0, 6, 7, 8] rfl
    refine va_callv (va_runV (As := [.int x1, .int x2, .int x3]) (rest := []) ⟨hx, hb, hml, hown, hts⟩ (c_X13_means l D T _ h0 q v w a f20 f21 f22 x1 x2 x3 (show isB (q 14) from hB) (show ∀ j : Nat, isB (f22 j) from hZ) (show (1 ≤ (q 4).toInt ∧ (q 4).toInt ≤ 9) ∧ 1 ≤ (q 6).toInt ∧ (q 6).toInt ≤ 9 from (by omega)) (show 0 ≤ x1.toInt ∧ x1.toInt < 24 from (by omega)) (show 0 ≤ x2.toInt ∧ x2.toInt ≤ 5 from (by omega)) (show 0 ≤ x3.toInt ∧ x3.toInt ≤ x2.toInt from (by omega)) (show ∀ j : Nat, 28 * x1.toInt + tri (x2.toInt + 1) ≤ j → (j : Int) < 28 * x1.toInt + 28 → 1 ≤ (f21 j).toInt from hWB2)) (cwV 3 hts gX13_laysFree_X13_means rfl rfl rfl hv_X13_means ⟨Nat.le_of_ble_eq_true rfl, Nat.le_of_ble_eq_true rfl⟩) (pW_V (q := (RX13, TX13, 45)) (ci := 10) (q0 := 0) hP hE hD rfl rfl [0, 6, 7, 8] (by decide +kernel) rfl rfl) rfl rfl hl.1 rfl (lv_room (Nat.le_of_ble_eq_true rfl)) dX13_laysFree_32 ⟨Nat.le_of_ble_eq_true rfl, Nat.le_of_ble_eq_true rfl⟩) hS (fun q _ h => hFc q h) hFc (fun u_5 t H1 locs ht hvm hr_4 hB hz1 hk1 hS => ?_)
    obtain ⟨n_6, l_7, l_8⟩ := u_5
    obtain ⟨hi0_r_4, hi1_r_4, hi2_r_4, hi3_r_4⟩ := hr_4
    have hB14_r_4 : isB n_6 := hi0_r_4
    have hj1_r_4 : 1 ≤ l_8.toInt := hi1_r_4
    have hj2_r_4 : ((q 14) : Int32).toInt = 0 → mpW n_6 l_7 l_8 = avgW (lqW (q 0) (q 1) (q 2) (q 3) (q 4) (q 5) (q 6)) (tabW f20 f21 f22) x1 x2 x3 := hi2_r_4
    have hj3_r_4 : (n_6 : Int32).toInt = 0 → ((q 14) : Int32).toInt = 0 := hi3_r_4
    obtain ⟨hP1, hD1⟩ := hB
    rw [ht] at hP1
    obtain ⟨hP, hD⟩ := va_repl [(h0, .inr (10, (Value.int (q 0) :: Value.int (q 1) :: Value.int (q 2) :: Value.int (q 3) :: Value.int (q 4) :: Value.int (q 5) :: Value.int (q 6) :: Value.int (q 7) :: Value.ref (a 8) :: Value.ref (a 9) :: Value.ref (a 10) :: Value.ref (a 11) :: Value.ref (a 12) :: Value.ref (a 13) :: Value.int n_6 :: Value.long l_7 :: Value.long l_8 :: Value.ref (a 17) :: Value.ref (a 18) :: Value.ref (a 19) :: Value.ref (a 20) :: Value.ref (a 21) :: Value.ref (a 22) :: Value.ref (a 23) :: Value.int (q 24) :: Value.ref (a 25) :: Value.int (q 26) :: Value.ref (a 27) :: Value.int (q 28) :: Value.int (q 29) :: Value.int (q 30) :: Value.int (q 31) :: Value.int (q 32) :: Value.int (q 33) :: Value.ref (a 34) :: Value.ref (a 35) :: Value.ref (a 36) :: Value.ref (a 37) :: Value.ref (a 38) :: Value.ref (a 39) :: Value.ref (a 40) :: Value.int (q 41) :: Value.ref (a 42) :: Value.int (q 43) :: Value.int (q 44) :: []))), ((a 8), .inl (T 0, 24, .inl f8)), ((a 9), .inl (T 0, 24, .inl f9)), ((a 10), .inl (T 0, 24, .inl f10)), ((a 11), .inl (T 0, 24, .inl f11)), ((a 17), .inl (T 0, 24, .inl f17)), ((a 20), .inl (T 1, 672, .inr (.inl f20))), ((a 21), .inl (T 1, 672, .inr (.inl f21))), ((a 22), .inl (T 4, 672, .inl f22))] hP hD [0, 6, 7, 8] [0, 6, 7, 8] rfl (by decide +kernel) rfl rfl rfl hk1 hP1
    clear hP1 hD1 hFc
    generalize H1 = H at hP hS ⊢
    refine lv_aload_n hx hb dX13_laysFree_35 rfl (lv_at hl 1 rfl) ?_
    refine va_get (D := D) (ci := 10) (v := .long l_7) (C := RX13) (T := TX13) (N := 45) hx hb hts in_X13_laysFree_X13 hown hE.1 hP 0 rfl rfl 15 (by decide +kernel) (hts (.fieldLink RX13 145 "ClauseBookModel" "above" "J") (List.mem_of_getElem? (i := 3) rfl)) (fun _ h9 => h9) rfl dX13_laysFree_36 ?_
    refine lv_lstore (lv' := [(5, .long l_7), (4, .int z_1), (0, .ref h0), (1, .int x1), (2, .int x2), (3, .int x3)]) hx hb dX13_laysFree_39 hl (by decide +kernel) rfl (fun ls hl => ?_)
    refine lv_aload_n hx hb dX13_laysFree_41 rfl (lv_at hl 2 rfl) ?_
    refine va_get (D := D) (ci := 10) (v := .long l_8) (C := RX13) (T := TX13) (N := 45) hx hb hts in_X13_laysFree_X13 hown hE.1 hP 0 rfl rfl 16 (by decide +kernel) (hts (.fieldLink RX13 149 "ClauseBookModel" "below" "J") (List.mem_of_getElem? (i := 4) rfl)) (fun _ h9 => h9) rfl dX13_laysFree_42 ?_
    refine lv_lstore (lv' := [(7, .long l_8), (5, .long l_7), (4, .int z_1), (0, .ref h0), (1, .int x1), (2, .int x2), (3, .int x3)]) hx hb dX13_laysFree_45 hl (by decide +kernel) rfl (fun ls hl => ?_)
    refine lv_aload_n hx hb dX13_laysFree_47 rfl (lv_at hl 3 rfl) ?_
    refine lv_iload hx hb dX13_laysFree_48 (lv_at hl 2 rfl) ?_
    refine lv_iload_n hx hb dX13_laysFree_50 rfl (lv_at hl 5 rfl) ?_
    refine lv_iload_n hx hb dX13_laysFree_51 rfl (lv_at hl 6 rfl) ?_
    have hFc := va_free (wc := [(h0, .inr (10, (Value.int (q 0) :: Value.int (q 1) :: Value.int (q 2) :: Value.int (q 3) :: Value.int (q 4) :: Value.int (q 5) :: Value.int (q 6) :: Value.int (q 7) :: Value.ref (a 8) :: Value.ref (a 9) :: Value.ref (a 10) :: Value.ref (a 11) :: Value.ref (a 12) :: Value.ref (a 13) :: Value.int n_6 :: Value.long l_7 :: Value.long l_8 :: Value.ref (a 17) :: Value.ref (a 18) :: Value.ref (a 19) :: Value.ref (a 20) :: Value.ref (a 21) :: Value.ref (a 22) :: Value.ref (a 23) :: Value.int (q 24) :: Value.ref (a 25) :: Value.int (q 26) :: Value.ref (a 27) :: Value.int (q 28) :: Value.int (q 29) :: Value.int (q 30) :: Value.int (q 31) :: Value.int (q 32) :: Value.int (q 33) :: Value.ref (a 34) :: Value.ref (a 35) :: Value.ref (a 36) :: Value.ref (a 37) :: Value.ref (a 38) :: Value.ref (a 39) :: Value.ref (a 40) :: Value.int (q 41) :: Value.ref (a 42) :: Value.int (q 43) :: Value.int (q 44) :: []))), ((a 20), .inl (T 1, 672, .inr (.inl f20))), ((a 21), .inl (T 1, 672, .inr (.inl f21))), ((a 22), .inl (T 4, 672, .inl f22))]) hD hS hA [0, 6, 7, 8] rfl
    refine va_callv (va_runV (As := [.int z_1, .int x2, .int x3]) (rest := []) ⟨hx, hb, hml, hown, hts⟩ (c_X13_takes l D T _ h0 (fun k => cond (Nat.beq k 14) n_6 (q k)) l_7 l_8 a f20 f21 f22 z_1 x2 x3 (show isB n_6 from hB14_r_4) (show ∀ j : Nat, isB (f22 j) from hZ) (show 0 ≤ z_1.toInt ∧ z_1.toInt < 24 from (by omega)) (show 0 ≤ x2.toInt ∧ x2.toInt ≤ 6 from (by omega)) (show 0 ≤ x3.toInt ∧ x3.toInt ≤ x2.toInt from (by omega)) (show ∀ j : Nat, (j : Int) = 28 * z_1.toInt + tri x2.toInt + x3.toInt → 1 ≤ (f21 j).toInt from (fun j hj => hWB1 j (by omega)))) (cwV 3 hts gX13_laysFree_X13_takes rfl rfl rfl hv_X13_takes ⟨Nat.le_of_ble_eq_true rfl, Nat.le_of_ble_eq_true rfl⟩) (pW_V (q := (RX13, TX13, 45)) (ci := 10) (q0 := 0) hP hE hD rfl rfl [0, 6, 7, 8] (by decide +kernel) rfl rfl) rfl rfl hl.1 rfl (lv_room (Nat.le_of_ble_eq_true rfl)) dX13_laysFree_52 ⟨Nat.le_of_ble_eq_true rfl, Nat.le_of_ble_eq_true rfl⟩) hS (fun q _ h => hFc q h) hFc (fun u_10 t H1 locs ht hvm hr_9 hB hz1 hk1 hS => ?_)
    obtain ⟨n_11, l_12, l_13⟩ := u_10
    obtain ⟨hi0_r_9, hi1_r_9, hi2_r_9, hi3_r_9, hi4_r_9⟩ := hr_9
    have hB14_r_9 : isB n_11 := hi0_r_9
    have hj1_r_9 : 1 ≤ l_13.toInt := hi1_r_9
    have hj2_r_9 : (n_11 : Int32).toInt = 0 ↔ ((n_6 : Int32).toInt = 0 ∧ (f22 (slN z_1 x2 x3)).toInt = 0) := hi2_r_9
    have hj3_r_9 : l_12 = f20 (slN z_1 x2 x3) := hi3_r_9
    have hj4_r_9 : l_13 = f21 (slN z_1 x2 x3) := hi4_r_9
    obtain ⟨hP1, hD1⟩ := hB
    rw [ht] at hP1
    obtain ⟨hP, hD⟩ := va_repl [(h0, .inr (10, (Value.int (q 0) :: Value.int (q 1) :: Value.int (q 2) :: Value.int (q 3) :: Value.int (q 4) :: Value.int (q 5) :: Value.int (q 6) :: Value.int (q 7) :: Value.ref (a 8) :: Value.ref (a 9) :: Value.ref (a 10) :: Value.ref (a 11) :: Value.ref (a 12) :: Value.ref (a 13) :: Value.int n_11 :: Value.long l_12 :: Value.long l_13 :: Value.ref (a 17) :: Value.ref (a 18) :: Value.ref (a 19) :: Value.ref (a 20) :: Value.ref (a 21) :: Value.ref (a 22) :: Value.ref (a 23) :: Value.int (q 24) :: Value.ref (a 25) :: Value.int (q 26) :: Value.ref (a 27) :: Value.int (q 28) :: Value.int (q 29) :: Value.int (q 30) :: Value.int (q 31) :: Value.int (q 32) :: Value.int (q 33) :: Value.ref (a 34) :: Value.ref (a 35) :: Value.ref (a 36) :: Value.ref (a 37) :: Value.ref (a 38) :: Value.ref (a 39) :: Value.ref (a 40) :: Value.int (q 41) :: Value.ref (a 42) :: Value.int (q 43) :: Value.int (q 44) :: []))), ((a 8), .inl (T 0, 24, .inl f8)), ((a 9), .inl (T 0, 24, .inl f9)), ((a 10), .inl (T 0, 24, .inl f10)), ((a 11), .inl (T 0, 24, .inl f11)), ((a 17), .inl (T 0, 24, .inl f17)), ((a 20), .inl (T 1, 672, .inr (.inl f20))), ((a 21), .inl (T 1, 672, .inr (.inl f21))), ((a 22), .inl (T 4, 672, .inl f22))] hP hD [0, 6, 7, 8] [0, 6, 7, 8] rfl (by decide +kernel) rfl rfl rfl hk1 hP1
    clear hP1 hD1 hFc
    generalize H1 = H at hP hS ⊢
    refine lv_aload_n hx hb dX13_laysFree_55 rfl (lv_at hl 3 rfl) ?_
    refine va_get (D := D) (ci := 10) (v := .int n_11) (C := RX13) (T := TX13) (N := 45) hx hb hts in_X13_laysFree_X13 hown hE.1 hP 0 rfl rfl 14 (by decide +kernel) (hts (.fieldLink RX13 131 "ClauseBookModel" "isMuch" "Z") (List.mem_of_getElem? (i := 5) rfl)) (fun _ h9 => h9) rfl dX13_laysFree_56 ?_
    refine lv_if_ne (tgt := 92) hx hb dX13_laysFree_59 (by decide +kernel) (fun c_14 => ?_) (fun c_14 => ?_)
    · rw [fa_eq] at c_14
      try rw [ti_0] at c_14
      exact W.vret hx hb hr (fun t ht hW => ⟨⟨(n_11, l_12, l_13), rfl, ⟨(show isB n_11 from hB14_r_9), (show 1 ≤ l_13.toInt from (by first | omega | (subst_vars; omega))), (show ((q 14) : Int32).toInt = 0 → mpW n_11 l_12 l_13 = stepW (lqW (q 0) (q 1) (q 2) (q 3) (q 4) (q 5) (q 6)) f8 f9 f10 f11 f17 (tabW f20 f21 f22) x1 x2 x3 from (fun h9 => by
                                                            have k1 := tb_ref (s := 1) (u := l_12) (v := l_13) (hj2_r_4 h9) (fun q9 => tk_mp q9 hj2_r_9 hj3_r_9 hj4_r_9) (fun q9 => (hj2_r_9.1 q9).1) hj1_r_4 hj1_r_9 (fun h8 => absurd h8 (by omega))
                                                            rw [ez_1] at k1
                                                            exact lc_11m (by omega) (by omega) (by omega) (avg_low hL (hLw.2 (by omega))) (hLw.1 _ (by omega) (by omega)) k1))⟩, by rw [ht]; exact hP.sub [0, 1, 2, 3, 4, 5, 6, 7, 8] rfl, hD.sub [0, 1, 2, 3, 4, 5, 6, 7, 8] (by decide +kernel) rfl⟩, hS.F ht⟩) hS.2.2 dX13_laysFree_92
    · rw [fa_eq] at c_14
      try rw [ti_0] at c_14
      refine lv_lload hx hb dX13_laysFree_62 (lv_at hl 1 rfl) ?_
      refine lv_lload hx hb dX13_laysFree_64 (lv_at hl 0 rfl) ?_
      refine lv_aload_n hx hb dX13_laysFree_66 rfl (lv_at hl 3 rfl) ?_
      refine va_get (D := D) (ci := 10) (v := .long l_12) (C := RX13) (T := TX13) (N := 45) hx hb hts in_X13_laysFree_X13 hown hE.1 hP 0 rfl rfl 15 (by decide +kernel) (hts (.fieldLink RX13 145 "ClauseBookModel" "above" "J") (List.mem_of_getElem? (i := 3) rfl)) (fun _ h9 => h9) rfl dX13_laysFree_67 ?_
      refine lv_aload_n hx hb dX13_laysFree_70 rfl (lv_at hl 3 rfl) ?_
      refine va_get (D := D) (ci := 10) (v := .long l_13) (C := RX13) (T := TX13) (N := 45) hx hb hts in_X13_laysFree_X13 hown hE.1 hP 0 rfl rfl 16 (by decide +kernel) (hts (.fieldLink RX13 149 "ClauseBookModel" "below" "J") (List.mem_of_getElem? (i := 4) rfl)) (fun _ h9 => h9) rfl dX13_laysFree_71 ?_
      refine vp_callSi (W.runS (As := [.long l_7, .long l_8, .long l_12, .long l_13]) (rest := []) ⟨hx, hb, hml, hown, hts⟩ (cC_all l D T 127 l_7 l_8 l_12 l_13 (by omega) (by omega) (cmpT (by omega) (by omega))) (va_cwS 4 hts gX13_laysFree_X13_compared rfl rfl rfl hs_X13_compared ⟨Nat.le_of_ble_eq_true rfl, Nat.le_of_ble_eq_true rfl⟩) (pR_S hP hE [] rfl) rfl rfl hl.1 rfl (lv_room (Nat.le_of_ble_eq_true rfl)) dX13_laysFree_74 ⟨Nat.le_of_ble_eq_true rfl, Nat.le_of_ble_eq_true rfl⟩) (fun r_15 hr_15 => ?_)
      refine lv_if_le (tgt := 92) hx hb dX13_laysFree_77 (by decide +kernel) (fun c_16 => ?_) (fun c_16 => ?_)
      · rw [fa_le] at c_16
        try rw [ti_0] at c_16
        exact W.vret hx hb hr (fun t ht hW => ⟨⟨(n_11, l_12, l_13), rfl, ⟨(show isB n_11 from hB14_r_9), (show 1 ≤ l_13.toInt from (by first | omega | (subst_vars; omega))), (show ((q 14) : Int32).toInt = 0 → mpW n_11 l_12 l_13 = stepW (lqW (q 0) (q 1) (q 2) (q 3) (q 4) (q 5) (q 6)) f8 f9 f10 f11 f17 (tabW f20 f21 f22) x1 x2 x3 from (fun h9 => by
                                                            have k1 := tb_ref (s := 1) (u := l_12) (v := l_13) (hj2_r_4 h9) (fun q9 => tk_mp q9 hj2_r_9 hj3_r_9 hj4_r_9) (fun q9 => (hj2_r_9.1 q9).1) hj1_r_4 hj1_r_9 (fun _ => Or.inr ⟨by omega, rfl, rfl⟩)
                                                            rw [ez_1] at k1
                                                            exact lc_11m (by omega) (by omega) (by omega) (avg_low hL (hLw.2 (by omega))) (hLw.1 _ (by omega) (by omega)) k1))⟩, by rw [ht]; exact hP.sub [0, 1, 2, 3, 4, 5, 6, 7, 8] rfl, hD.sub [0, 1, 2, 3, 4, 5, 6, 7, 8] (by decide +kernel) rfl⟩, hS.F ht⟩) hS.2.2 dX13_laysFree_92
      · rw [fa_le] at c_16
        try rw [ti_0] at c_16
        refine lv_aload_n hx hb dX13_laysFree_80 rfl (lv_at hl 3 rfl) ?_
        refine lv_lload hx hb dX13_laysFree_81 (lv_at hl 1 rfl) ?_
        refine va_put (D := D) (ci := 10) (v := .long l_7) (ty := .long) (C := RX13) (T := TX13) (N := 45) hx hb hts in_X13_laysFree_X13 tyX13 tyX13_ok nmX13 hown hE.1 hP hD hS 0 rfl rfl 15 (by decide +kernel) (hts (.fieldLink RX13 145 "ClauseBookModel" "above" "J") (List.mem_of_getElem? (i := 3) rfl)) (fun _ h9 => h9) rfl (by decide +kernel) rfl rfl (Nat.le_of_ble_eq_true rfl) dX13_laysFree_83 (fun H locs hP hD hS => ?_)
        obtain ⟨hP, hD⟩ := wPD [(h0, .inr (10, (Value.int (q 0) :: Value.int (q 1) :: Value.int (q 2) :: Value.int (q 3) :: Value.int (q 4) :: Value.int (q 5) :: Value.int (q 6) :: Value.int (q 7) :: Value.ref (a 8) :: Value.ref (a 9) :: Value.ref (a 10) :: Value.ref (a 11) :: Value.ref (a 12) :: Value.ref (a 13) :: Value.int n_11 :: Value.long l_7 :: Value.long l_13 :: Value.ref (a 17) :: Value.ref (a 18) :: Value.ref (a 19) :: Value.ref (a 20) :: Value.ref (a 21) :: Value.ref (a 22) :: Value.ref (a 23) :: Value.int (q 24) :: Value.ref (a 25) :: Value.int (q 26) :: Value.ref (a 27) :: Value.int (q 28) :: Value.int (q 29) :: Value.int (q 30) :: Value.int (q 31) :: Value.int (q 32) :: Value.int (q 33) :: Value.ref (a 34) :: Value.ref (a 35) :: Value.ref (a 36) :: Value.ref (a 37) :: Value.ref (a 38) :: Value.ref (a 39) :: Value.ref (a 40) :: Value.int (q 41) :: Value.ref (a 42) :: Value.int (q 43) :: Value.int (q 44) :: []))), ((a 8), .inl (T 0, 24, .inl f8)), ((a 9), .inl (T 0, 24, .inl f9)), ((a 10), .inl (T 0, 24, .inl f10)), ((a 11), .inl (T 0, 24, .inl f11)), ((a 17), .inl (T 0, 24, .inl f17)), ((a 20), .inl (T 1, 672, .inr (.inl f20))), ((a 21), .inl (T 1, 672, .inr (.inl f21))), ((a 22), .inl (T 4, 672, .inl f22))] hP hD rfl
        refine lv_aload_n hx hb dX13_laysFree_86 rfl (lv_at hl 3 rfl) ?_
        refine lv_lload hx hb dX13_laysFree_87 (lv_at hl 0 rfl) ?_
        refine va_put (D := D) (ci := 10) (v := .long l_8) (ty := .long) (C := RX13) (T := TX13) (N := 45) hx hb hts in_X13_laysFree_X13 tyX13 tyX13_ok nmX13 hown hE.1 hP hD hS 0 rfl rfl 16 (by decide +kernel) (hts (.fieldLink RX13 149 "ClauseBookModel" "below" "J") (List.mem_of_getElem? (i := 4) rfl)) (fun _ h9 => h9) rfl (by decide +kernel) rfl rfl (Nat.le_of_ble_eq_true rfl) dX13_laysFree_89 (fun H locs hP hD hS => ?_)
        obtain ⟨hP, hD⟩ := wPD [(h0, .inr (10, (Value.int (q 0) :: Value.int (q 1) :: Value.int (q 2) :: Value.int (q 3) :: Value.int (q 4) :: Value.int (q 5) :: Value.int (q 6) :: Value.int (q 7) :: Value.ref (a 8) :: Value.ref (a 9) :: Value.ref (a 10) :: Value.ref (a 11) :: Value.ref (a 12) :: Value.ref (a 13) :: Value.int n_11 :: Value.long l_7 :: Value.long l_8 :: Value.ref (a 17) :: Value.ref (a 18) :: Value.ref (a 19) :: Value.ref (a 20) :: Value.ref (a 21) :: Value.ref (a 22) :: Value.ref (a 23) :: Value.int (q 24) :: Value.ref (a 25) :: Value.int (q 26) :: Value.ref (a 27) :: Value.int (q 28) :: Value.int (q 29) :: Value.int (q 30) :: Value.int (q 31) :: Value.int (q 32) :: Value.int (q 33) :: Value.ref (a 34) :: Value.ref (a 35) :: Value.ref (a 36) :: Value.ref (a 37) :: Value.ref (a 38) :: Value.ref (a 39) :: Value.ref (a 40) :: Value.int (q 41) :: Value.ref (a 42) :: Value.int (q 43) :: Value.int (q 44) :: []))), ((a 8), .inl (T 0, 24, .inl f8)), ((a 9), .inl (T 0, 24, .inl f9)), ((a 10), .inl (T 0, 24, .inl f10)), ((a 11), .inl (T 0, 24, .inl f11)), ((a 17), .inl (T 0, 24, .inl f17)), ((a 20), .inl (T 1, 672, .inr (.inl f20))), ((a 21), .inl (T 1, 672, .inr (.inl f21))), ((a 22), .inl (T 4, 672, .inl f22))] hP hD rfl
        exact W.vret hx hb hr (fun t ht hW => ⟨⟨(n_11, l_7, l_8), rfl, ⟨(show isB n_11 from hB14_r_9), (show 1 ≤ l_8.toInt from (by first | omega | (subst_vars; omega))), (show ((q 14) : Int32).toInt = 0 → mpW n_11 l_7 l_8 = stepW (lqW (q 0) (q 1) (q 2) (q 3) (q 4) (q 5) (q 6)) f8 f9 f10 f11 f17 (tabW f20 f21 f22) x1 x2 x3 from (fun h9 => by
                                                            have k1 := tb_ref (s := 1) (u := l_7) (v := l_8) (hj2_r_4 h9) (fun q9 => tk_mp q9 hj2_r_9 hj3_r_9 hj4_r_9) (fun q9 => (hj2_r_9.1 q9).1) hj1_r_4 hj1_r_9 (fun _ => Or.inl ⟨by omega, rfl, rfl⟩)
                                                            rw [ez_1] at k1
                                                            exact lc_11m (by omega) (by omega) (by omega) (avg_low hL (hLw.2 (by omega))) (hLw.1 _ (by omega) (by omega)) k1))⟩, by rw [ht]; exact hP.sub [0, 1, 2, 3, 4, 5, 6, 7, 8] rfl, hD.sub [0, 1, 2, 3, 4, 5, 6, 7, 8] (by decide +kernel) rfl⟩, hS.F ht⟩) hS.2.2 dX13_laysFree_92
  · rw [fa_eq] at c_3
    refine lv_aload_n hx hb dX13_laysFree_19 rfl (lv_at hl 1 rfl) ?_
    refine lv_iload hx hb dX13_laysFree_20 (lv_at hl 0 rfl) ?_
    refine lv_iload_n hx hb dX13_laysFree_22 rfl (lv_at hl 3 rfl) ?_
    refine lv_iload_n hx hb dX13_laysFree_23 rfl (lv_at hl 4 rfl) ?_
    have hFc := va_free (wc := [(h0, .inr (10, (Value.int (q 0) :: Value.int (q 1) :: Value.int (q 2) :: Value.int (q 3) :: Value.int (q 4) :: Value.int (q 5) :: Value.int (q 6) :: Value.int (q 7) :: Value.ref (a 8) :: Value.ref (a 9) :: Value.ref (a 10) :: Value.ref (a 11) :: Value.ref (a 12) :: Value.ref (a 13) :: Value.int (q 14) :: Value.long v :: Value.long w :: Value.ref (a 17) :: Value.ref (a 18) :: Value.ref (a 19) :: Value.ref (a 20) :: Value.ref (a 21) :: Value.ref (a 22) :: Value.ref (a 23) :: Value.int (q 24) :: Value.ref (a 25) :: Value.int (q 26) :: Value.ref (a 27) :: Value.int (q 28) :: Value.int (q 29) :: Value.int (q 30) :: Value.int (q 31) :: Value.int (q 32) :: Value.int (q 33) :: Value.ref (a 34) :: Value.ref (a 35) :: Value.ref (a 36) :: Value.ref (a 37) :: Value.ref (a 38) :: Value.ref (a 39) :: Value.ref (a 40) :: Value.int (q 41) :: Value.ref (a 42) :: Value.int (q 43) :: Value.int (q 44) :: []))), ((a 20), .inl (T 1, 672, .inr (.inl f20))), ((a 21), .inl (T 1, 672, .inr (.inl f21))), ((a 22), .inl (T 4, 672, .inl f22))]) hD hS hA [0, 6, 7, 8] rfl
    refine va_callv (va_runV (As := [.int z_1, .int x2, .int x3]) (rest := []) ⟨hx, hb, hml, hown, hts⟩ (c_X13_takes l D T _ h0 q v w a f20 f21 f22 z_1 x2 x3 (show isB (q 14) from hB) (show ∀ j : Nat, isB (f22 j) from hZ) (show 0 ≤ z_1.toInt ∧ z_1.toInt < 24 from (by omega)) (show 0 ≤ x2.toInt ∧ x2.toInt ≤ 6 from (by omega)) (show 0 ≤ x3.toInt ∧ x3.toInt ≤ x2.toInt from (by omega)) (show ∀ j : Nat, (j : Int) = 28 * z_1.toInt + tri x2.toInt + x3.toInt → 1 ≤ (f21 j).toInt from (fun j hj => hWB1 j (by omega)))) (cwV 3 hts gX13_laysFree_X13_takes rfl rfl rfl hv_X13_takes ⟨Nat.le_of_ble_eq_true rfl, Nat.le_of_ble_eq_true rfl⟩) (pW_V (q := (RX13, TX13, 45)) (ci := 10) (q0 := 0) hP hE hD rfl rfl [0, 6, 7, 8] (by decide +kernel) rfl rfl) rfl rfl hl.1 rfl (lv_room (Nat.le_of_ble_eq_true rfl)) dX13_laysFree_24 ⟨Nat.le_of_ble_eq_true rfl, Nat.le_of_ble_eq_true rfl⟩) hS (fun q _ h => hFc q h) hFc (fun u_18 t H1 locs ht hvm hr_17 hB hz1 hk1 hS => ?_)
    obtain ⟨n_19, l_20, l_21⟩ := u_18
    obtain ⟨hi0_r_17, hi1_r_17, hi2_r_17, hi3_r_17, hi4_r_17⟩ := hr_17
    have hB14_r_17 : isB n_19 := hi0_r_17
    have hj1_r_17 : 1 ≤ l_21.toInt := hi1_r_17
    have hj2_r_17 : (n_19 : Int32).toInt = 0 ↔ (((q 14) : Int32).toInt = 0 ∧ (f22 (slN z_1 x2 x3)).toInt = 0) := hi2_r_17
    have hj3_r_17 : l_20 = f20 (slN z_1 x2 x3) := hi3_r_17
    have hj4_r_17 : l_21 = f21 (slN z_1 x2 x3) := hi4_r_17
    obtain ⟨hP1, hD1⟩ := hB
    rw [ht] at hP1
    obtain ⟨hP, hD⟩ := va_repl [(h0, .inr (10, (Value.int (q 0) :: Value.int (q 1) :: Value.int (q 2) :: Value.int (q 3) :: Value.int (q 4) :: Value.int (q 5) :: Value.int (q 6) :: Value.int (q 7) :: Value.ref (a 8) :: Value.ref (a 9) :: Value.ref (a 10) :: Value.ref (a 11) :: Value.ref (a 12) :: Value.ref (a 13) :: Value.int n_19 :: Value.long l_20 :: Value.long l_21 :: Value.ref (a 17) :: Value.ref (a 18) :: Value.ref (a 19) :: Value.ref (a 20) :: Value.ref (a 21) :: Value.ref (a 22) :: Value.ref (a 23) :: Value.int (q 24) :: Value.ref (a 25) :: Value.int (q 26) :: Value.ref (a 27) :: Value.int (q 28) :: Value.int (q 29) :: Value.int (q 30) :: Value.int (q 31) :: Value.int (q 32) :: Value.int (q 33) :: Value.ref (a 34) :: Value.ref (a 35) :: Value.ref (a 36) :: Value.ref (a 37) :: Value.ref (a 38) :: Value.ref (a 39) :: Value.ref (a 40) :: Value.int (q 41) :: Value.ref (a 42) :: Value.int (q 43) :: Value.int (q 44) :: []))), ((a 8), .inl (T 0, 24, .inl f8)), ((a 9), .inl (T 0, 24, .inl f9)), ((a 10), .inl (T 0, 24, .inl f10)), ((a 11), .inl (T 0, 24, .inl f11)), ((a 17), .inl (T 0, 24, .inl f17)), ((a 20), .inl (T 1, 672, .inr (.inl f20))), ((a 21), .inl (T 1, 672, .inr (.inl f21))), ((a 22), .inl (T 4, 672, .inl f22))] hP hD [0, 6, 7, 8] [0, 6, 7, 8] rfl (by decide +kernel) rfl rfl rfl hk1 hP1
    clear hP1 hD1 hFc
    generalize H1 = H at hP hS ⊢
    exact W.vret hx hb hr (fun t ht hW => ⟨⟨(n_19, l_20, l_21), rfl, ⟨(show isB n_19 from hB14_r_17), (show 1 ≤ l_21.toInt from (by first | omega | (subst_vars; omega))), (show ((q 14) : Int32).toInt = 0 → mpW n_19 l_20 l_21 = stepW (lqW (q 0) (q 1) (q 2) (q 3) (q 4) (q 5) (q 6)) f8 f9 f10 f11 f17 (tabW f20 f21 f22) x1 x2 x3 from (fun h9 => by
                                                            have k1 := tk_mp h9 hj2_r_17 hj3_r_17 hj4_r_17
                                                            rw [ez_1] at k1
                                                            exact lc_11n (by omega) (by omega) (by omega) k1))⟩, by rw [ht]; exact hP.sub [0, 1, 2, 3, 4, 5, 6, 7, 8] rfl, hD.sub [0, 1, 2, 3, 4, 5, 6, 7, 8] (by decide +kernel) rfl⟩, hS.F ht⟩) hS.2.2 dX13_laysFree_27
theorem dX13_lays_0 : decode cX13_lays 0 = .ok (.aload_n 0, 1) := by decide +kernel
theorem dX13_lays_1 : decode cX13_lays 1 = .ok (.getfield 35, 3) := by decide +kernel
theorem dX13_lays_101 : decode cX13_lays 101 = .ok (.return_, 1) := by decide +kernel
theorem dX13_lays_102 : decode cX13_lays 102 = .ok (.aload_n 0, 1) := by decide +kernel
theorem dX13_lays_103 : decode cX13_lays 103 = .ok (.iload 4, 2) := by decide +kernel
theorem dX13_lays_105 : decode cX13_lays 105 = .ok (.iload_n 2, 1) := by decide +kernel
theorem dX13_lays_106 : decode cX13_lays 106 = .ok (.iload_n 3, 1) := by decide +kernel
theorem dX13_lays_107 : decode cX13_lays 107 = .ok (.invokevirtual 243, 3) := by decide +kernel
theorem dX13_lays_110 : decode cX13_lays 110 = .ok (.aload_n 0, 1) := by decide +kernel
theorem dX13_lays_111 : decode cX13_lays 111 = .ok (.ldc2_w 135, 3) := by decide +kernel
theorem dX13_lays_114 : decode cX13_lays 114 = .ok (.lconst 1, 1) := by decide +kernel
theorem dX13_lays_115 : decode cX13_lays 115 = .ok (.aload_n 0, 1) := by decide +kernel
theorem dX13_lays_116 : decode cX13_lays 116 = .ok (.getfield 145, 3) := by decide +kernel
theorem dX13_lays_119 : decode cX13_lays 119 = .ok (.aload_n 0, 1) := by decide +kernel
theorem dX13_lays_12 : decode cX13_lays 12 = .ok (.iload_n 1, 1) := by decide +kernel
theorem dX13_lays_120 : decode cX13_lays 120 = .ok (.getfield 149, 3) := by decide +kernel
theorem dX13_lays_123 : decode cX13_lays 123 = .ok (.invokevirtual 247, 3) := by decide +kernel
theorem dX13_lays_126 : decode cX13_lays 126 = .ok (.return_, 1) := by decide +kernel
theorem dX13_lays_127 : decode cX13_lays 127 = .ok (.aload_n 0, 1) := by decide +kernel
theorem dX13_lays_128 : decode cX13_lays 128 = .ok (.iload 4, 2) := by decide +kernel
theorem dX13_lays_13 : decode cX13_lays 13 = .ok (.iaload, 1) := by decide +kernel
theorem dX13_lays_130 : decode cX13_lays 130 = .ok (.iload_n 2, 1) := by decide +kernel
theorem dX13_lays_131 : decode cX13_lays 131 = .ok (.iload_n 3, 1) := by decide +kernel
theorem dX13_lays_132 : decode cX13_lays 132 = .ok (.invokevirtual 243, 3) := by decide +kernel
theorem dX13_lays_135 : decode cX13_lays 135 = .ok (.aload_n 0, 1) := by decide +kernel
theorem dX13_lays_136 : decode cX13_lays 136 = .ok (.aload_n 0, 1) := by decide +kernel
theorem dX13_lays_137 : decode cX13_lays 137 = .ok (.getfield 32, 3) := by decide +kernel
theorem dX13_lays_14 : decode cX13_lays 14 = .ok (.istore 5, 2) := by decide +kernel
theorem dX13_lays_140 : decode cX13_lays 140 = .ok (.iload_n 1, 1) := by decide +kernel
theorem dX13_lays_141 : decode cX13_lays 141 = .ok (.iaload, 1) := by decide +kernel
theorem dX13_lays_142 : decode cX13_lays 142 = .ok (.i2l, 1) := by decide +kernel
theorem dX13_lays_143 : decode cX13_lays 143 = .ok (.lconst 1, 1) := by decide +kernel
theorem dX13_lays_144 : decode cX13_lays 144 = .ok (.aload_n 0, 1) := by decide +kernel
theorem dX13_lays_145 : decode cX13_lays 145 = .ok (.getfield 145, 3) := by decide +kernel
theorem dX13_lays_148 : decode cX13_lays 148 = .ok (.aload_n 0, 1) := by decide +kernel
theorem dX13_lays_149 : decode cX13_lays 149 = .ok (.getfield 149, 3) := by decide +kernel
theorem dX13_lays_152 : decode cX13_lays 152 = .ok (.invokevirtual 247, 3) := by decide +kernel
theorem dX13_lays_155 : decode cX13_lays 155 = .ok (.return_, 1) := by decide +kernel
theorem dX13_lays_156 : decode cX13_lays 156 = .ok (.aload_n 0, 1) := by decide +kernel
theorem dX13_lays_157 : decode cX13_lays 157 = .ok (.iload 4, 2) := by decide +kernel
theorem dX13_lays_159 : decode cX13_lays 159 = .ok (.iload_n 2, 1) := by decide +kernel
theorem dX13_lays_16 : decode cX13_lays 16 = .ok (.aload_n 0, 1) := by decide +kernel
theorem dX13_lays_160 : decode cX13_lays 160 = .ok (.iload_n 3, 1) := by decide +kernel
theorem dX13_lays_161 : decode cX13_lays 161 = .ok (.invokevirtual 243, 3) := by decide +kernel
theorem dX13_lays_164 : decode cX13_lays 164 = .ok (.aload_n 0, 1) := by decide +kernel
theorem dX13_lays_165 : decode cX13_lays 165 = .ok (.aload_n 0, 1) := by decide +kernel
theorem dX13_lays_166 : decode cX13_lays 166 = .ok (.iload_n 2, 1) := by decide +kernel
theorem dX13_lays_167 : decode cX13_lays 167 = .ok (.iload_n 3, 1) := by decide +kernel
theorem dX13_lays_168 : decode cX13_lays 168 = .ok (.invokevirtual 192, 3) := by decide +kernel
theorem dX13_lays_17 : decode cX13_lays 17 = .ok (.getfield 28, 3) := by decide +kernel
theorem dX13_lays_171 : decode cX13_lays 171 = .ok (.i2l, 1) := by decide +kernel
theorem dX13_lays_172 : decode cX13_lays 172 = .ok (.lconst 1, 1) := by decide +kernel
theorem dX13_lays_173 : decode cX13_lays 173 = .ok (.aload_n 0, 1) := by decide +kernel
theorem dX13_lays_174 : decode cX13_lays 174 = .ok (.getfield 145, 3) := by decide +kernel
theorem dX13_lays_177 : decode cX13_lays 177 = .ok (.aload_n 0, 1) := by decide +kernel
theorem dX13_lays_178 : decode cX13_lays 178 = .ok (.getfield 149, 3) := by decide +kernel
theorem dX13_lays_181 : decode cX13_lays 181 = .ok (.invokevirtual 247, 3) := by decide +kernel
theorem dX13_lays_184 : decode cX13_lays 184 = .ok (.return_, 1) := by decide +kernel
theorem dX13_lays_185 : decode cX13_lays 185 = .ok (.aload_n 0, 1) := by decide +kernel
theorem dX13_lays_186 : decode cX13_lays 186 = .ok (.iload 4, 2) := by decide +kernel
theorem dX13_lays_188 : decode cX13_lays 188 = .ok (.iload_n 2, 1) := by decide +kernel
theorem dX13_lays_189 : decode cX13_lays 189 = .ok (.iload_n 3, 1) := by decide +kernel
theorem dX13_lays_190 : decode cX13_lays 190 = .ok (.invokevirtual 243, 3) := by decide +kernel
theorem dX13_lays_193 : decode cX13_lays 193 = .ok (.aload_n 0, 1) := by decide +kernel
theorem dX13_lays_194 : decode cX13_lays 194 = .ok (.getfield 145, 3) := by decide +kernel
theorem dX13_lays_197 : decode cX13_lays 197 = .ok (.lstore 6, 2) := by decide +kernel
theorem dX13_lays_199 : decode cX13_lays 199 = .ok (.aload_n 0, 1) := by decide +kernel
theorem dX13_lays_20 : decode cX13_lays 20 = .ok (.iload_n 1, 1) := by decide +kernel
theorem dX13_lays_200 : decode cX13_lays 200 = .ok (.getfield 149, 3) := by decide +kernel
theorem dX13_lays_203 : decode cX13_lays 203 = .ok (.lstore 8, 2) := by decide +kernel
theorem dX13_lays_205 : decode cX13_lays 205 = .ok (.aload_n 0, 1) := by decide +kernel
theorem dX13_lays_206 : decode cX13_lays 206 = .ok (.iload 5, 2) := by decide +kernel
theorem dX13_lays_208 : decode cX13_lays 208 = .ok (.iload_n 2, 1) := by decide +kernel
theorem dX13_lays_209 : decode cX13_lays 209 = .ok (.iload_n 3, 1) := by decide +kernel
theorem dX13_lays_21 : decode cX13_lays 21 = .ok (.iaload, 1) := by decide +kernel
theorem dX13_lays_210 : decode cX13_lays 210 = .ok (.invokevirtual 243, 3) := by decide +kernel
theorem dX13_lays_213 : decode cX13_lays 213 = .ok (.aload_n 0, 1) := by decide +kernel
theorem dX13_lays_214 : decode cX13_lays 214 = .ok (.lload 6, 2) := by decide +kernel
theorem dX13_lays_216 : decode cX13_lays 216 = .ok (.lload 8, 2) := by decide +kernel
theorem dX13_lays_218 : decode cX13_lays 218 = .ok (.aload_n 0, 1) := by decide +kernel
theorem dX13_lays_219 : decode cX13_lays 219 = .ok (.getfield 145, 3) := by decide +kernel
theorem dX13_lays_22 : decode cX13_lays 22 = .ok (.tableswitch 308 0 12 #[66, 73, 80, 105, 134, 163, 208, 208, 308, 216, 241, 271, 279], 66) := by decide +kernel
theorem dX13_lays_222 : decode cX13_lays 222 = .ok (.aload_n 0, 1) := by decide +kernel
theorem dX13_lays_223 : decode cX13_lays 223 = .ok (.getfield 149, 3) := by decide +kernel
theorem dX13_lays_226 : decode cX13_lays 226 = .ok (.invokevirtual 251, 3) := by decide +kernel
theorem dX13_lays_229 : decode cX13_lays 229 = .ok (.return_, 1) := by decide +kernel
theorem dX13_lays_230 : decode cX13_lays 230 = .ok (.aload_n 0, 1) := by decide +kernel
theorem dX13_lays_231 : decode cX13_lays 231 = .ok (.iload_n 1, 1) := by decide +kernel
theorem dX13_lays_232 : decode cX13_lays 232 = .ok (.iload_n 2, 1) := by decide +kernel
theorem dX13_lays_233 : decode cX13_lays 233 = .ok (.iload_n 3, 1) := by decide +kernel
theorem dX13_lays_234 : decode cX13_lays 234 = .ok (.invokevirtual 254, 3) := by decide +kernel
theorem dX13_lays_237 : decode cX13_lays 237 = .ok (.return_, 1) := by decide +kernel
theorem dX13_lays_238 : decode cX13_lays 238 = .ok (.aload_n 0, 1) := by decide +kernel
theorem dX13_lays_239 : decode cX13_lays 239 = .ok (.iload_n 2, 1) := by decide +kernel
theorem dX13_lays_240 : decode cX13_lays 240 = .ok (.aload_n 0, 1) := by decide +kernel
theorem dX13_lays_241 : decode cX13_lays 241 = .ok (.getfield 47, 3) := by decide +kernel
theorem dX13_lays_244 : decode cX13_lays 244 = .ok (.iload 4, 2) := by decide +kernel
theorem dX13_lays_246 : decode cX13_lays 246 = .ok (.iaload, 1) := by decide +kernel
theorem dX13_lays_247 : decode cX13_lays 247 = .ok (.if_icmp .gt 8, 3) := by decide +kernel
theorem dX13_lays_250 : decode cX13_lays 250 = .ok (.iload 4, 2) := by decide +kernel
theorem dX13_lays_252 : decode cX13_lays 252 = .ok (.goto 5, 3) := by decide +kernel
theorem dX13_lays_255 : decode cX13_lays 255 = .ok (.iload 5, 2) := by decide +kernel
theorem dX13_lays_257 : decode cX13_lays 257 = .ok (.iload_n 2, 1) := by decide +kernel
theorem dX13_lays_258 : decode cX13_lays 258 = .ok (.iload_n 3, 1) := by decide +kernel
theorem dX13_lays_259 : decode cX13_lays 259 = .ok (.invokevirtual 243, 3) := by decide +kernel
theorem dX13_lays_262 : decode cX13_lays 262 = .ok (.return_, 1) := by decide +kernel
theorem dX13_lays_263 : decode cX13_lays 263 = .ok (.iload_n 2, 1) := by decide +kernel
theorem dX13_lays_264 : decode cX13_lays 264 = .ok (.aload_n 0, 1) := by decide +kernel
theorem dX13_lays_265 : decode cX13_lays 265 = .ok (.getfield 47, 3) := by decide +kernel
theorem dX13_lays_268 : decode cX13_lays 268 = .ok (.iload 4, 2) := by decide +kernel
theorem dX13_lays_270 : decode cX13_lays 270 = .ok (.iaload, 1) := by decide +kernel
theorem dX13_lays_271 : decode cX13_lays 271 = .ok (.if_icmp .ne 14, 3) := by decide +kernel
theorem dX13_lays_274 : decode cX13_lays 274 = .ok (.aload_n 0, 1) := by decide +kernel
theorem dX13_lays_275 : decode cX13_lays 275 = .ok (.iload 4, 2) := by decide +kernel
theorem dX13_lays_277 : decode cX13_lays 277 = .ok (.iload_n 2, 1) := by decide +kernel
theorem dX13_lays_278 : decode cX13_lays 278 = .ok (.iload_n 3, 1) := by decide +kernel
theorem dX13_lays_279 : decode cX13_lays 279 = .ok (.invokevirtual 243, 3) := by decide +kernel
theorem dX13_lays_282 : decode cX13_lays 282 = .ok (.goto 10, 3) := by decide +kernel
theorem dX13_lays_285 : decode cX13_lays 285 = .ok (.aload_n 0, 1) := by decide +kernel
theorem dX13_lays_286 : decode cX13_lays 286 = .ok (.iload_n 1, 1) := by decide +kernel
theorem dX13_lays_287 : decode cX13_lays 287 = .ok (.iload_n 2, 1) := by decide +kernel
theorem dX13_lays_288 : decode cX13_lays 288 = .ok (.iload_n 3, 1) := by decide +kernel
theorem dX13_lays_289 : decode cX13_lays 289 = .ok (.invokevirtual 257, 3) := by decide +kernel
theorem dX13_lays_292 : decode cX13_lays 292 = .ok (.return_, 1) := by decide +kernel
theorem dX13_lays_293 : decode cX13_lays 293 = .ok (.aload_n 0, 1) := by decide +kernel
theorem dX13_lays_294 : decode cX13_lays 294 = .ok (.iload_n 1, 1) := by decide +kernel
theorem dX13_lays_295 : decode cX13_lays 295 = .ok (.iload_n 2, 1) := by decide +kernel
theorem dX13_lays_296 : decode cX13_lays 296 = .ok (.iload_n 3, 1) := by decide +kernel
theorem dX13_lays_297 : decode cX13_lays 297 = .ok (.invokevirtual 260, 3) := by decide +kernel
theorem dX13_lays_300 : decode cX13_lays 300 = .ok (.return_, 1) := by decide +kernel
theorem dX13_lays_301 : decode cX13_lays 301 = .ok (.aload_n 0, 1) := by decide +kernel
theorem dX13_lays_302 : decode cX13_lays 302 = .ok (.aload_n 0, 1) := by decide +kernel
theorem dX13_lays_303 : decode cX13_lays 303 = .ok (.iload_n 2, 1) := by decide +kernel
theorem dX13_lays_304 : decode cX13_lays 304 = .ok (.iload_n 3, 1) := by decide +kernel
theorem dX13_lays_305 : decode cX13_lays 305 = .ok (.invokevirtual 192, 3) := by decide +kernel
theorem dX13_lays_308 : decode cX13_lays 308 = .ok (.aload_n 0, 1) := by decide +kernel
theorem dX13_lays_309 : decode cX13_lays 309 = .ok (.getfield 32, 3) := by decide +kernel
theorem dX13_lays_312 : decode cX13_lays 312 = .ok (.iload_n 1, 1) := by decide +kernel
theorem dX13_lays_313 : decode cX13_lays 313 = .ok (.iaload, 1) := by decide +kernel
theorem dX13_lays_314 : decode cX13_lays 314 = .ok (.if_icmp .lt 8, 3) := by decide +kernel
theorem dX13_lays_317 : decode cX13_lays 317 = .ok (.iload 4, 2) := by decide +kernel
theorem dX13_lays_319 : decode cX13_lays 319 = .ok (.goto 5, 3) := by decide +kernel
theorem dX13_lays_322 : decode cX13_lays 322 = .ok (.iload 5, 2) := by decide +kernel
theorem dX13_lays_324 : decode cX13_lays 324 = .ok (.iload_n 2, 1) := by decide +kernel
theorem dX13_lays_325 : decode cX13_lays 325 = .ok (.iload_n 3, 1) := by decide +kernel
theorem dX13_lays_326 : decode cX13_lays 326 = .ok (.invokevirtual 243, 3) := by decide +kernel
theorem dX13_lays_329 : decode cX13_lays 329 = .ok (.return_, 1) := by decide +kernel
theorem dX13_lays_330 : decode cX13_lays 330 = .ok (.aload_n 0, 1) := by decide +kernel
theorem dX13_lays_331 : decode cX13_lays 331 = .ok (.iload 4, 2) := by decide +kernel
theorem dX13_lays_333 : decode cX13_lays 333 = .ok (.iload_n 2, 1) := by decide +kernel
theorem dX13_lays_334 : decode cX13_lays 334 = .ok (.iload_n 3, 1) := by decide +kernel
theorem dX13_lays_335 : decode cX13_lays 335 = .ok (.invokevirtual 243, 3) := by decide +kernel
theorem dX13_lays_338 : decode cX13_lays 338 = .ok (.return_, 1) := by decide +kernel
theorem dX13_lays_4 : decode cX13_lays 4 = .ok (.iload_n 1, 1) := by decide +kernel
theorem dX13_lays_5 : decode cX13_lays 5 = .ok (.iaload, 1) := by decide +kernel
theorem dX13_lays_6 : decode cX13_lays 6 = .ok (.istore 4, 2) := by decide +kernel
theorem dX13_lays_8 : decode cX13_lays 8 = .ok (.aload_n 0, 1) := by decide +kernel
theorem dX13_lays_88 : decode cX13_lays 88 = .ok (.aload_n 0, 1) := by decide +kernel
theorem dX13_lays_89 : decode cX13_lays 89 = .ok (.lconst 0, 1) := by decide +kernel
theorem dX13_lays_9 : decode cX13_lays 9 = .ok (.getfield 38, 3) := by decide +kernel
theorem dX13_lays_90 : decode cX13_lays 90 = .ok (.lconst 1, 1) := by decide +kernel
theorem dX13_lays_91 : decode cX13_lays 91 = .ok (.invokevirtual 155, 3) := by decide +kernel
theorem dX13_lays_94 : decode cX13_lays 94 = .ok (.return_, 1) := by decide +kernel
theorem dX13_lays_95 : decode cX13_lays 95 = .ok (.aload_n 0, 1) := by decide +kernel
theorem dX13_lays_96 : decode cX13_lays 96 = .ok (.lconst 1, 1) := by decide +kernel
theorem dX13_lays_97 : decode cX13_lays 97 = .ok (.lconst 1, 1) := by decide +kernel
theorem dX13_lays_98 : decode cX13_lays 98 = .ok (.invokevirtual 155, 3) := by decide +kernel
set_option maxRecDepth 40000 in
theorem ggX13_lays_X13_adds_0 : GoodIn wsX13_lays [.code yX13_adds cX13_adds 17 none] := goodIn_r _ [47] rfl (by decide +kernel)
set_option maxRecDepth 40000 in
theorem ggX13_lays_X13_adds_1 : GoodIn wsX13_lays [.fieldLink RX13 131 "ClauseBookModel" "isMuch" "Z", .methodLink RX13 152 yX13_times, .instanceMethod yX13_times, .selects RX13 yX13_times yX13_times, .initialized RX13, .code yX13_times cX13_times 7 (some .long), .constantLong RX13 135 (-1), .constantLong RX13 139 (-9223372036854775808), .methodLink RX13 159 yX13_plus, .instanceMethod yX13_plus, .selects RX13 yX13_plus yX13_plus, .code yX13_plus cX13_plus 7 (some .long), .methodLink RX13 155 yX13_becomes, .instanceMethod yX13_becomes, .selects RX13 yX13_becomes yX13_becomes, .code yX13_becomes cX13_becomes 7 none, .fieldLink RX13 145 "ClauseBookModel" "above" "J", .fieldLink RX13 149 "ClauseBookModel" "below" "J", .methodLink RX13 141 yX13_divisor, .static yX13_divisor, .code yX13_divisor cX13_divisor 10 (some .long)] := goodIn_r _ [14, 32, 33, 34, 12, 35, 4, 36, 48, 49, 50, 51, 9, 10, 11, 13, 5, 6, 15, 16, 17] rfl (by decide +kernel)
set_option maxRecDepth 40000 in
theorem ggX13_lays_X13_adds_2 : GoodIn wsX13_lays wsX130 := goodIn_r _ [79, 80, 81, 82, 83, 84, 85, 86, 87, 88, 89, 90, 91, 92, 93, 94, 95, 96, 97, 98, 99, 100, 101, 102, 103, 104, 105, 106, 107, 108, 109, 110, 111, 112, 113, 114, 115, 116, 117, 118, 119, 120, 121, 122, 123] rfl (by decide +kernel)
set_option maxRecDepth 40000 in
theorem ggX13_lays_X13_adds : GoodIn wsX13_lays wsX13_adds := (goodIn_app ggX13_lays_X13_adds_0 (goodIn_app ggX13_lays_X13_adds_1 ggX13_lays_X13_adds_2))
set_option maxRecDepth 20000 in
theorem ggX13_lays_X13_becomes : GoodIn wsX13_lays wsX13_becomes := goodIn_r _ [13, 14, 5, 6, 15, 16, 12, 17, 79, 80, 81, 82, 83, 84, 85, 86, 87, 88, 89, 90, 91, 92, 93, 94, 95, 96, 97, 98, 99, 100, 101, 102, 103, 104, 105, 106, 107, 108, 109, 110, 111, 112, 113, 114, 115, 116, 117, 118, 119, 120, 121, 122, 123] rfl (by decide +kernel)
set_option maxRecDepth 40000 in
theorem ggX13_lays_X13_laysChoice_0 : GoodIn wsX13_lays [.code yX13_laysChoice cX13_laysChoice 6 none] := goodIn_r _ [55] rfl (by decide +kernel)
set_option maxRecDepth 40000 in
theorem ggX13_lays_X13_laysChoice_1 : GoodIn wsX13_lays wsX13_laysChoice_r1 := goodIn_r _ [1, 2, 8, 3, 18, 19, 20, 12, 21, 14, 22, 23, 5, 24, 6, 25, 26, 27, 56, 57, 58, 59, 60, 61] rfl (by decide +kernel)
set_option maxRecDepth 40000 in
theorem ggX13_lays_X13_laysChoice_2 : GoodIn wsX13_lays wsX13_laysChoice_r2 := goodIn_r _ [62, 63, 64, 65, 66] rfl (by decide +kernel)
set_option maxRecDepth 40000 in
theorem ggX13_lays_X13_laysChoice_3 : GoodIn wsX13_lays wsX130 := goodIn_r _ [79, 80, 81, 82, 83, 84, 85, 86, 87, 88, 89, 90, 91, 92, 93, 94, 95, 96, 97, 98, 99, 100, 101, 102, 103, 104, 105, 106, 107, 108, 109, 110, 111, 112, 113, 114, 115, 116, 117, 118, 119, 120, 121, 122, 123] rfl (by decide +kernel)
set_option maxRecDepth 40000 in
theorem ggX13_lays_X13_laysChoice : GoodIn wsX13_lays wsX13_laysChoice := (goodIn_app ggX13_lays_X13_laysChoice_0 (goodIn_app (goodIn_app ggX13_lays_X13_laysChoice_1 ggX13_lays_X13_laysChoice_2) ggX13_lays_X13_laysChoice_3))
set_option maxRecDepth 40000 in
theorem ggX13_lays_X13_laysFree_0 : GoodIn wsX13_lays [.code yX13_laysFree cX13_laysFree 9 none] := goodIn_r _ [78] rfl (by decide +kernel)
set_option maxRecDepth 40000 in
theorem ggX13_lays_X13_laysFree_1 : GoodIn wsX13_lays wsX13_laysFree_r1 := goodIn_r _ [1, 8, 5, 6, 14, 18, 19, 20, 12, 21, 22, 23, 24, 25, 26, 27, 67, 68, 69, 70, 71, 72, 73, 74] rfl (by decide +kernel)
set_option maxRecDepth 40000 in
theorem ggX13_lays_X13_laysFree_2 : GoodIn wsX13_lays wsX13_laysFree_r2 := goodIn_r _ [28, 29, 30, 31, 32, 33, 34, 35, 4, 36, 9, 10, 11, 13, 15, 16, 17, 44, 45, 46, 47, 48, 49, 50] rfl (by decide +kernel)
set_option maxRecDepth 40000 in
theorem ggX13_lays_X13_laysFree_3 : GoodIn wsX13_lays wsX13_laysFree_r3 := goodIn_r _ [51, 60, 61, 62, 63, 64, 65, 66] rfl (by decide +kernel)
set_option maxRecDepth 40000 in
theorem ggX13_lays_X13_laysFree_4 : GoodIn wsX13_lays wsX130 := goodIn_r _ [79, 80, 81, 82, 83, 84, 85, 86, 87, 88, 89, 90, 91, 92, 93, 94, 95, 96, 97, 98, 99, 100, 101, 102, 103, 104, 105, 106, 107, 108, 109, 110, 111, 112, 113, 114, 115, 116, 117, 118, 119, 120, 121, 122, 123] rfl (by decide +kernel)
set_option maxRecDepth 40000 in
theorem ggX13_lays_X13_laysFree : GoodIn wsX13_lays wsX13_laysFree := (goodIn_app ggX13_lays_X13_laysFree_0 (goodIn_app (goodIn_app ggX13_lays_X13_laysFree_1 (goodIn_app ggX13_lays_X13_laysFree_2 ggX13_lays_X13_laysFree_3)) ggX13_lays_X13_laysFree_4))
set_option maxRecDepth 40000 in
theorem ggX13_lays_X13_means_0 : GoodIn wsX13_lays [.code yX13_means cX13_means 10 none] := goodIn_r _ [70] rfl (by decide +kernel)
set_option maxRecDepth 40000 in
theorem ggX13_lays_X13_means_1 : GoodIn wsX13_lays wsX13_means_r1 := goodIn_r _ [71, 5, 6, 72, 73, 74, 18, 19, 20, 12, 21, 14, 22, 23, 24, 25, 26, 27, 28, 29, 30, 31, 32, 33] rfl (by decide +kernel)
set_option maxRecDepth 40000 in
theorem ggX13_lays_X13_means_2 : GoodIn wsX13_lays wsX13_means_r2 := goodIn_r _ [34, 35, 4, 36, 9, 10, 11, 13, 15, 16, 17, 44, 45, 46, 47, 48, 49, 50, 51] rfl (by decide +kernel)
set_option maxRecDepth 40000 in
theorem ggX13_lays_X13_means_3 : GoodIn wsX13_lays wsX130 := goodIn_r _ [79, 80, 81, 82, 83, 84, 85, 86, 87, 88, 89, 90, 91, 92, 93, 94, 95, 96, 97, 98, 99, 100, 101, 102, 103, 104, 105, 106, 107, 108, 109, 110, 111, 112, 113, 114, 115, 116, 117, 118, 119, 120, 121, 122, 123] rfl (by decide +kernel)
set_option maxRecDepth 40000 in
theorem ggX13_lays_X13_means : GoodIn wsX13_lays wsX13_means := (goodIn_app ggX13_lays_X13_means_0 (goodIn_app (goodIn_app ggX13_lays_X13_means_1 ggX13_lays_X13_means_2) ggX13_lays_X13_means_3))
set_option maxRecDepth 40000 in
theorem ggX13_lays_X13_multiplies_0 : GoodIn wsX13_lays [.code yX13_multiplies cX13_multiplies 13 none] := goodIn_r _ [31] rfl (by decide +kernel)
set_option maxRecDepth 40000 in
theorem ggX13_lays_X13_multiplies_1 : GoodIn wsX13_lays [.methodLink RX13 152 yX13_times, .instanceMethod yX13_times, .selects RX13 yX13_times yX13_times, .initialized RX13, .code yX13_times cX13_times 7 (some .long), .fieldLink RX13 131 "ClauseBookModel" "isMuch" "Z", .constantLong RX13 135 (-1), .constantLong RX13 139 (-9223372036854775808), .methodLink RX13 155 yX13_becomes, .instanceMethod yX13_becomes, .selects RX13 yX13_becomes yX13_becomes, .code yX13_becomes cX13_becomes 7 none, .fieldLink RX13 145 "ClauseBookModel" "above" "J", .fieldLink RX13 149 "ClauseBookModel" "below" "J", .methodLink RX13 141 yX13_divisor, .static yX13_divisor, .code yX13_divisor cX13_divisor 10 (some .long)] := goodIn_r _ [32, 33, 34, 12, 35, 14, 4, 36, 9, 10, 11, 13, 5, 6, 15, 16, 17] rfl (by decide +kernel)
set_option maxRecDepth 40000 in
theorem ggX13_lays_X13_multiplies_2 : GoodIn wsX13_lays wsX130 := goodIn_r _ [79, 80, 81, 82, 83, 84, 85, 86, 87, 88, 89, 90, 91, 92, 93, 94, 95, 96, 97, 98, 99, 100, 101, 102, 103, 104, 105, 106, 107, 108, 109, 110, 111, 112, 113, 114, 115, 116, 117, 118, 119, 120, 121, 122, 123] rfl (by decide +kernel)
set_option maxRecDepth 40000 in
theorem ggX13_lays_X13_multiplies : GoodIn wsX13_lays wsX13_multiplies := (goodIn_app ggX13_lays_X13_multiplies_0 (goodIn_app ggX13_lays_X13_multiplies_1 ggX13_lays_X13_multiplies_2))
set_option maxRecDepth 20000 in
theorem ggX13_lays_X13_priceAt : GoodIn wsX13_lays wsX13_priceAt := goodIn_r _ [40, 41, 42, 43, 79, 80, 81, 82, 83, 84, 85, 86, 87, 88, 89, 90, 91, 92, 93, 94, 95, 96, 97, 98, 99, 100, 101, 102, 103, 104, 105, 106, 107, 108, 109, 110, 111, 112, 113, 114, 115, 116, 117, 118, 119, 120, 121, 122, 123] rfl (by decide +kernel)
set_option maxRecDepth 20000 in
theorem ggX13_lays_X13_takes : GoodIn wsX13_lays wsX13_takes := goodIn_r _ [21, 14, 22, 23, 5, 24, 6, 25, 26, 12, 27, 79, 80, 81, 82, 83, 84, 85, 86, 87, 88, 89, 90, 91, 92, 93, 94, 95, 96, 97, 98, 99, 100, 101, 102, 103, 104, 105, 106, 107, 108, 109, 110, 111, 112, 113, 114, 115, 116, 117, 118, 119, 120, 121, 122, 123] rfl (by decide +kernel)
set_option maxRecDepth 20000 in
theorem gX13_lays_X13_adds : GoodIn wsX13_lays (wsV RX13 251 RX13 yX13_adds wsX13_adds) := goodIn_app (goodIn_r _ [44, 45, 46, 12] rfl (by decide +kernel)) ggX13_lays_X13_adds
set_option maxRecDepth 20000 in
theorem gX13_lays_X13_becomes : GoodIn wsX13_lays (wsV RX13 155 RX13 yX13_becomes wsX13_becomes) := goodIn_app (goodIn_r _ [9, 10, 11, 12] rfl (by decide +kernel)) ggX13_lays_X13_becomes
set_option maxRecDepth 20000 in
theorem gX13_lays_X13_laysChoice : GoodIn wsX13_lays (wsV RX13 254 RX13 yX13_laysChoice wsX13_laysChoice) := goodIn_app (goodIn_r _ [52, 53, 54, 12] rfl (by decide +kernel)) ggX13_lays_X13_laysChoice
set_option maxRecDepth 20000 in
theorem gX13_lays_X13_laysFree : GoodIn wsX13_lays (wsV RX13 260 RX13 yX13_laysFree wsX13_laysFree) := goodIn_app (goodIn_r _ [75, 76, 77, 12] rfl (by decide +kernel)) ggX13_lays_X13_laysFree
set_option maxRecDepth 20000 in
theorem gX13_lays_X13_means : GoodIn wsX13_lays (wsV RX13 257 RX13 yX13_means wsX13_means) := goodIn_app (goodIn_r _ [67, 68, 69, 12] rfl (by decide +kernel)) ggX13_lays_X13_means
set_option maxRecDepth 20000 in
theorem gX13_lays_X13_multiplies : GoodIn wsX13_lays (wsV RX13 247 RX13 yX13_multiplies wsX13_multiplies) := goodIn_app (goodIn_r _ [28, 29, 30, 12] rfl (by decide +kernel)) ggX13_lays_X13_multiplies
set_option maxRecDepth 20000 in
theorem gX13_lays_X13_priceAt : GoodIn wsX13_lays (wsV RX13 192 RX13 yX13_priceAt wsX13_priceAt) := goodIn_app (goodIn_r _ [37, 38, 39, 12] rfl (by decide +kernel)) ggX13_lays_X13_priceAt
set_option maxRecDepth 20000 in
theorem gX13_lays_X13_takes : GoodIn wsX13_lays (wsV RX13 243 RX13 yX13_takes wsX13_takes) := goodIn_app (goodIn_r _ [18, 19, 20, 12] rfl (by decide +kernel)) ggX13_lays_X13_takes
theorem hv_X13_laysChoice : yX13_laysChoice.cls = RX13 ∧ yX13_laysChoice.cls ≠ "java/lang/invoke/MethodHandle" ∧ yX13_laysChoice.cls ≠ "java/lang/invoke/VarHandle" ∧ (parseMethodDescriptor yX13_laysChoice.desc).map (fun d => d.parameters.length) = some 3 := by decide +kernel
theorem hv_X13_laysFree : yX13_laysFree.cls = RX13 ∧ yX13_laysFree.cls ≠ "java/lang/invoke/MethodHandle" ∧ yX13_laysFree.cls ≠ "java/lang/invoke/VarHandle" ∧ (parseMethodDescriptor yX13_laysFree.desc).map (fun d => d.parameters.length) = some 3 := by decide +kernel
set_option maxRecDepth 20000 in
theorem in_X13_lays_X13 : ∀ w ∈ wsX130, w ∈ wsX13_lays := sub_r [79, 80, 81, 82, 83, 84, 85, 86, 87, 88, 89, 90, 91, 92, 93, 94, 95, 96, 97, 98, 99, 100, 101, 102, 103, 104, 105, 106, 107, 108, 109, 110, 111, 112, 113, 114, 115, 116, 117, 118, 119, 120, 121, 122, 123] rfl
set_option maxHeartbeats 4000000 in
set_option maxRecDepth 100000 in
theorem c_X13_lays (l : Launch) (D : va_G) (T : Nat → ClassId) (sz : Nat) (h0 : Nat) (q : Nat → Int32) (v : Int64) (w : Int64) (a : Nat → Nat) (f8 : Nat → Int32) (f9 : Nat → Int32) (f10 : Nat → Int32) (f11 : Nat → Int32) (f17 : Nat → Int32) (f20 : Nat → Int64) (f21 : Nat → Int64) (f22 : Nat → Int32) (x1 : Int32) (x2 : Int32) (x3 : Int32) (hB : isB (q 14)) (hM0 : ((q 14) : Int32).toInt = 0) (hZ : ∀ j : Nat, isB (f22 j)) (hL : (1 ≤ (q 4).toInt ∧ (q 4).toInt ≤ 9) ∧ 1 ≤ (q 6).toInt ∧ (q 6).toInt ≤ 9) (hokR : okR f8 f10 f11) (hx1 : 0 ≤ x1.toInt ∧ x1.toInt < 24) (hx2 : 0 ≤ x2.toInt ∧ x2.toInt ≤ 6) (hx3 : 0 ≤ x3.toInt ∧ x3.toInt ≤ x2.toInt) (hWB : wbK f21 x1.toInt x2.toInt) (hle : x2.toInt ≤ (f17 (x1.toNatClampNeg)).toInt) (hex : (f17 (x1.toNatClampNeg)).toInt ≤ 6 ∧ ((f8 (x1.toNatClampNeg)).toInt = 10 ∨ (f8 (x1.toNatClampNeg)).toInt = 11 → (f17 (x1.toNatClampNeg)).toInt = (f17 ((f10 (x1.toNatClampNeg)).toNatClampNeg)).toInt)) (hLw : lowS (tabW f20 f21 f22) x1 x2 x3) : Met l yX13_lays wsX13_lays ({ frames := 132, cells := 0, slots := 0, locals := 5229 }) (pW [.ref h0, .int x1, .int x2, .int x3] D T [(h0, .inr (10, (Value.int (q 0) :: Value.int (q 1) :: Value.int (q 2) :: Value.int (q 3) :: Value.int (q 4) :: Value.int (q 5) :: Value.int (q 6) :: Value.int (q 7) :: Value.ref (a 8) :: Value.ref (a 9) :: Value.ref (a 10) :: Value.ref (a 11) :: Value.ref (a 12) :: Value.ref (a 13) :: Value.int (q 14) :: Value.long v :: Value.long w :: Value.ref (a 17) :: Value.ref (a 18) :: Value.ref (a 19) :: Value.ref (a 20) :: Value.ref (a 21) :: Value.ref (a 22) :: Value.ref (a 23) :: Value.int (q 24) :: Value.ref (a 25) :: Value.int (q 26) :: Value.ref (a 27) :: Value.int (q 28) :: Value.int (q 29) :: Value.int (q 30) :: Value.int (q 31) :: Value.int (q 32) :: Value.int (q 33) :: Value.ref (a 34) :: Value.ref (a 35) :: Value.ref (a 36) :: Value.ref (a 37) :: Value.ref (a 38) :: Value.ref (a 39) :: Value.ref (a 40) :: Value.int (q 41) :: Value.ref (a 42) :: Value.int (q 43) :: Value.int (q 44) :: []))), ((a 8), .inl (T 0, 24, .inl f8)), ((a 9), .inl (T 0, 24, .inl f9)), ((a 10), .inl (T 0, 24, .inl f10)), ((a 11), .inl (T 0, 24, .inl f11)), ((a 17), .inl (T 0, 24, .inl f17)), ((a 20), .inl (T 1, 672, .inr (.inl f20))), ((a 21), .inl (T 1, 672, .inr (.inl f21))), ((a 22), .inl (T 4, 672, .inl f22))] sz) (va_Qv (fun (u : (Int32) × (Int64) × (Int64)) => (isB u.1) ∧ (1 ≤ u.2.2.toInt) ∧ (mpW u.1 u.2.1 u.2.2 = stepW (lqW (q 0) (q 1) (q 2) (q 3) (q 4) (q 5) (q 6)) f8 f9 f10 f11 f17 (tabW f20 f21 f22) x1 x2 x3)) (bW D (va_A [(h0, .inr (10, (Value.int (q 0) :: Value.int (q 1) :: Value.int (q 2) :: Value.int (q 3) :: Value.int (q 4) :: Value.int (q 5) :: Value.int (q 6) :: Value.int (q 7) :: Value.ref (a 8) :: Value.ref (a 9) :: Value.ref (a 10) :: Value.ref (a 11) :: Value.ref (a 12) :: Value.ref (a 13) :: Value.int (q 14) :: Value.long v :: Value.long w :: Value.ref (a 17) :: Value.ref (a 18) :: Value.ref (a 19) :: Value.ref (a 20) :: Value.ref (a 21) :: Value.ref (a 22) :: Value.ref (a 23) :: Value.int (q 24) :: Value.ref (a 25) :: Value.int (q 26) :: Value.ref (a 27) :: Value.int (q 28) :: Value.int (q 29) :: Value.int (q 30) :: Value.int (q 31) :: Value.int (q 32) :: Value.int (q 33) :: Value.ref (a 34) :: Value.ref (a 35) :: Value.ref (a 36) :: Value.ref (a 37) :: Value.ref (a 38) :: Value.ref (a 39) :: Value.ref (a 40) :: Value.int (q 41) :: Value.ref (a 42) :: Value.int (q 43) :: Value.int (q 44) :: []))), ((a 8), .inl (T 0, 24, .inl f8)), ((a 9), .inl (T 0, 24, .inl f9)), ((a 10), .inl (T 0, 24, .inl f10)), ((a 11), .inl (T 0, 24, .inl f11)), ((a 17), .inl (T 0, 24, .inl f17)), ((a 20), .inl (T 1, 672, .inr (.inl f20))), ((a 21), .inl (T 1, 672, .inr (.inl f21))), ((a 22), .inl (T 4, 672, .inl f22))] sz) (fun (u : (Int32) × (Int64) × (Int64)) => [(h0, .inr (10, (Value.int (q 0) :: Value.int (q 1) :: Value.int (q 2) :: Value.int (q 3) :: Value.int (q 4) :: Value.int (q 5) :: Value.int (q 6) :: Value.int (q 7) :: Value.ref (a 8) :: Value.ref (a 9) :: Value.ref (a 10) :: Value.ref (a 11) :: Value.ref (a 12) :: Value.ref (a 13) :: Value.int u.1 :: Value.long u.2.1 :: Value.long u.2.2 :: Value.ref (a 17) :: Value.ref (a 18) :: Value.ref (a 19) :: Value.ref (a 20) :: Value.ref (a 21) :: Value.ref (a 22) :: Value.ref (a 23) :: Value.int (q 24) :: Value.ref (a 25) :: Value.int (q 26) :: Value.ref (a 27) :: Value.int (q 28) :: Value.int (q 29) :: Value.int (q 30) :: Value.int (q 31) :: Value.int (q 32) :: Value.int (q 33) :: Value.ref (a 34) :: Value.ref (a 35) :: Value.ref (a 36) :: Value.ref (a 37) :: Value.ref (a 38) :: Value.ref (a 39) :: Value.ref (a 40) :: Value.int (q 41) :: Value.ref (a 42) :: Value.int (q 43) :: Value.int (q 44) :: []))), ((a 8), .inl (T 0, 24, .inl f8)), ((a 9), .inl (T 0, 24, .inl f9)), ((a 10), .inl (T 0, 24, .inl f10)), ((a 11), .inl (T 0, 24, .inl f11)), ((a 17), .inl (T 0, 24, .inl f17)), ((a 20), .inl (T 1, 672, .inr (.inl f20))), ((a 21), .inl (T 1, 672, .inr (.inl f21))), ((a 22), .inl (T 4, 672, .inl f22))])) (va_A [(h0, .inr (10, (Value.int (q 0) :: Value.int (q 1) :: Value.int (q 2) :: Value.int (q 3) :: Value.int (q 4) :: Value.int (q 5) :: Value.int (q 6) :: Value.int (q 7) :: Value.ref (a 8) :: Value.ref (a 9) :: Value.ref (a 10) :: Value.ref (a 11) :: Value.ref (a 12) :: Value.ref (a 13) :: Value.int (q 14) :: Value.long v :: Value.long w :: Value.ref (a 17) :: Value.ref (a 18) :: Value.ref (a 19) :: Value.ref (a 20) :: Value.ref (a 21) :: Value.ref (a 22) :: Value.ref (a 23) :: Value.int (q 24) :: Value.ref (a 25) :: Value.int (q 26) :: Value.ref (a 27) :: Value.int (q 28) :: Value.int (q 29) :: Value.int (q 30) :: Value.int (q 31) :: Value.int (q 32) :: Value.int (q 33) :: Value.ref (a 34) :: Value.ref (a 35) :: Value.ref (a 36) :: Value.ref (a 37) :: Value.ref (a 38) :: Value.ref (a 39) :: Value.ref (a 40) :: Value.int (q 41) :: Value.ref (a 42) :: Value.int (q 43) :: Value.int (q 44) :: []))), ((a 8), .inl (T 0, 24, .inl f8)), ((a 9), .inl (T 0, 24, .inl f9)), ((a 10), .inl (T 0, 24, .inl f10)), ((a 11), .inl (T 0, 24, .inl f11)), ((a 17), .inl (T 0, 24, .inl f17)), ((a 20), .inl (T 1, 672, .inr (.inl f20))), ((a 21), .inl (T 1, 672, .inr (.inl f21))), ((a 22), .inl (T 4, 672, .inl f22))] sz)) 0 0 (va_A [(h0, .inr (10, (Value.int (q 0) :: Value.int (q 1) :: Value.int (q 2) :: Value.int (q 3) :: Value.int (q 4) :: Value.int (q 5) :: Value.int (q 6) :: Value.int (q 7) :: Value.ref (a 8) :: Value.ref (a 9) :: Value.ref (a 10) :: Value.ref (a 11) :: Value.ref (a 12) :: Value.ref (a 13) :: Value.int (q 14) :: Value.long v :: Value.long w :: Value.ref (a 17) :: Value.ref (a 18) :: Value.ref (a 19) :: Value.ref (a 20) :: Value.ref (a 21) :: Value.ref (a 22) :: Value.ref (a 23) :: Value.int (q 24) :: Value.ref (a 25) :: Value.int (q 26) :: Value.ref (a 27) :: Value.int (q 28) :: Value.int (q 29) :: Value.int (q 30) :: Value.int (q 31) :: Value.int (q 32) :: Value.int (q 33) :: Value.ref (a 34) :: Value.ref (a 35) :: Value.ref (a 36) :: Value.ref (a 37) :: Value.ref (a 38) :: Value.ref (a 39) :: Value.ref (a 40) :: Value.int (q 41) :: Value.ref (a 42) :: Value.int (q 43) :: Value.int (q 44) :: []))), ((a 8), .inl (T 0, 24, .inl f8)), ((a 9), .inl (T 0, 24, .inl f9)), ((a 10), .inl (T 0, 24, .inl f10)), ((a 11), .inl (T 0, 24, .inl f11)), ((a 17), .inl (T 0, 24, .inl f17)), ((a 20), .inl (T 1, 672, .inr (.inl f20))), ((a 21), .inl (T 1, 672, .inr (.inl f21))), ((a 22), .inl (T 4, 672, .inl f22))] sz) := by
  refine Met.ofW (cc := cX13_lays) (maxL := 10) (ret := none) (by decide +kernel) rfl ?_
  intro p e s m args below meth c s₁ B hml hv
  obtain ⟨rfl, hsz, hP, hE, hD0⟩ := hv
  have hx := B.exec
  have hb := B.bytes
  have hr := B.returns
  have hts := atoms_spec (ws := wsX13_lays) B.pre
  have hown : s.vm.findClass RX13 = some m.cls := findClass_of_methodNamed B.named
  have hlocks := B.notSynchronized
  subst hsz
  have hD := hD0.self (sz := s.heap.size)
  generalize hAe : va_A [(h0, .inr (10, (Value.int (q 0) :: Value.int (q 1) :: Value.int (q 2) :: Value.int (q 3) :: Value.int (q 4) :: Value.int (q 5) :: Value.int (q 6) :: Value.int (q 7) :: Value.ref (a 8) :: Value.ref (a 9) :: Value.ref (a 10) :: Value.ref (a 11) :: Value.ref (a 12) :: Value.ref (a 13) :: Value.int (q 14) :: Value.long v :: Value.long w :: Value.ref (a 17) :: Value.ref (a 18) :: Value.ref (a 19) :: Value.ref (a 20) :: Value.ref (a 21) :: Value.ref (a 22) :: Value.ref (a 23) :: Value.int (q 24) :: Value.ref (a 25) :: Value.int (q 26) :: Value.ref (a 27) :: Value.int (q 28) :: Value.int (q 29) :: Value.int (q 30) :: Value.int (q 31) :: Value.int (q 32) :: Value.int (q 33) :: Value.ref (a 34) :: Value.ref (a 35) :: Value.ref (a 36) :: Value.ref (a 37) :: Value.ref (a 38) :: Value.ref (a 39) :: Value.ref (a 40) :: Value.int (q 41) :: Value.ref (a 42) :: Value.int (q 43) :: Value.int (q 44) :: []))), ((a 8), .inl (T 0, 24, .inl f8)), ((a 9), .inl (T 0, 24, .inl f9)), ((a 10), .inl (T 0, 24, .inl f10)), ((a 11), .inl (T 0, 24, .inl f11)), ((a 17), .inl (T 0, 24, .inl f17)), ((a 20), .inl (T 1, 672, .inr (.inl f20))), ((a 21), .inl (T 1, 672, .inr (.inl f21))), ((a 22), .inl (T 4, 672, .inl f22))] s.heap.size = A at hD ⊢
  have hA : ∀ q : Nat, s.heap.size ≤ q → A q := fun q h => by rw [← hAe]; exact Or.inr h
  have hS : va_S A s.heap s.heap [] := va_S.rf
  have hP : va_P D vwCl [(h0, .inr (10, (Value.int (q 0) :: Value.int (q 1) :: Value.int (q 2) :: Value.int (q 3) :: Value.int (q 4) :: Value.int (q 5) :: Value.int (q 6) :: Value.int (q 7) :: Value.ref (a 8) :: Value.ref (a 9) :: Value.ref (a 10) :: Value.ref (a 11) :: Value.ref (a 12) :: Value.ref (a 13) :: Value.int (q 14) :: Value.long v :: Value.long w :: Value.ref (a 17) :: Value.ref (a 18) :: Value.ref (a 19) :: Value.ref (a 20) :: Value.ref (a 21) :: Value.ref (a 22) :: Value.ref (a 23) :: Value.int (q 24) :: Value.ref (a 25) :: Value.int (q 26) :: Value.ref (a 27) :: Value.int (q 28) :: Value.int (q 29) :: Value.int (q 30) :: Value.int (q 31) :: Value.int (q 32) :: Value.int (q 33) :: Value.ref (a 34) :: Value.ref (a 35) :: Value.ref (a 36) :: Value.ref (a 37) :: Value.ref (a 38) :: Value.ref (a 39) :: Value.ref (a 40) :: Value.int (q 41) :: Value.ref (a 42) :: Value.int (q 43) :: Value.int (q 44) :: []))), ((a 8), .inl (T 0, 24, .inl f8)), ((a 9), .inl (T 0, 24, .inl f9)), ((a 10), .inl (T 0, 24, .inl f10)), ((a 11), .inl (T 0, 24, .inl f11)), ((a 17), .inl (T 0, 24, .inl f17)), ((a 20), .inl (T 1, 672, .inr (.inl f20))), ((a 21), .inl (T 1, 672, .inr (.inl f21))), ((a 22), .inl (T 4, 672, .inl f22))] s.heap := hP
  have hl := lv_entry ([.ref h0, .int x1, .int x2, .int x3]) (n := 10) (Nat.le_of_ble_eq_true rfl)
  rw [lg_entry_eq]
  generalize (lg_sl ([.ref h0, .int x1, .int x2, .int x3]) ++ List.replicate (10 - (lg_sl ([.ref h0, .int x1, .int x2, .int x3])).length) Slot.unset).toArray = ls at hl ⊢
  have hl : lv_has ls 10 [(0, .ref h0), (1, .int x1), (2, .int x2), (3, .int x3)] := hl
  clear hD0
  have ht := tri_in (d := x2.toInt) (by omega)
  refine lv_aload_n hx hb dX13_lays_0 rfl (lv_at hl 0 rfl) ?_
  refine va_get (D := D) (ci := 10) (v := .ref (a 10)) (C := RX13) (T := TX13) (N := 45) hx hb hts in_X13_lays_X13 hown hE.1 hP 0 rfl rfl 10 (by decide +kernel) (hts (.fieldLink RX13 35 "ClauseBookModel" "one" "[I") (List.mem_of_getElem? (i := 1) rfl)) (fun _ h9 => h9) rfl dX13_lays_1 ?_
  refine lv_iload_n hx hb dX13_lays_4 rfl (lv_at hl 1 rfl) ?_
  refine va_iald hx hb hE.1 hP 3 0 rfl rfl (by rw [vp_in_iff]; first | omega | (subst_vars; omega)) dX13_lays_5 ?_
  refine lv_topi (fun z_1 ez_1 => ?_)
  refine lv_istore (lv' := [(4, .int z_1), (0, .ref h0), (1, .int x1), (2, .int x2), (3, .int x3)]) hx hb dX13_lays_6 hl (by decide +kernel) rfl (fun ls hl => ?_)
  have htz_1 : z_1.toInt = (f10 (x1.toNatClampNeg)).toInt := by rw [ez_1]
  refine lv_aload_n hx hb dX13_lays_8 rfl (lv_at hl 1 rfl) ?_
  refine va_get (D := D) (ci := 10) (v := .ref (a 11)) (C := RX13) (T := TX13) (N := 45) hx hb hts in_X13_lays_X13 hown hE.1 hP 0 rfl rfl 11 (by decide +kernel) (hts (.fieldLink RX13 38 "ClauseBookModel" "two" "[I") (List.mem_of_getElem? (i := 2) rfl)) (fun _ h9 => h9) rfl dX13_lays_9 ?_
  refine lv_iload_n hx hb dX13_lays_12 rfl (lv_at hl 2 rfl) ?_
  refine va_iald hx hb hE.1 hP 4 0 rfl rfl (by rw [vp_in_iff]; first | omega | (subst_vars; omega)) dX13_lays_13 ?_
  refine lv_topi (fun z_2 ez_2 => ?_)
  refine lv_istore (lv' := [(5, .int z_2), (4, .int z_1), (0, .ref h0), (1, .int x1), (2, .int x2), (3, .int x3)]) hx hb dX13_lays_14 hl (by decide +kernel) rfl (fun ls hl => ?_)
  have htz_2 : z_2.toInt = (f11 (x1.toNatClampNeg)).toInt := by rw [ez_2]
  refine lv_aload_n hx hb dX13_lays_16 rfl (lv_at hl 2 rfl) ?_
  refine va_get (D := D) (ci := 10) (v := .ref (a 8)) (C := RX13) (T := TX13) (N := 45) hx hb hts in_X13_lays_X13 hown hE.1 hP 0 rfl rfl 8 (by decide +kernel) (hts (.fieldLink RX13 28 "ClauseBookModel" "kind" "[I") (List.mem_of_getElem? (i := 3) rfl)) (fun _ h9 => h9) rfl dX13_lays_17 ?_
  refine lv_iload_n hx hb dX13_lays_20 rfl (lv_at hl 3 rfl) ?_
  refine va_iald hx hb hE.1 hP 1 0 rfl rfl (by rw [vp_in_iff]; first | omega | (subst_vars; omega)) dX13_lays_21 ?_
  refine lv_topi (fun z_3 ez_3 => ?_)
  have hkz_3 : 0 ≤ z_3.toInt ∧ z_3.toInt ≤ 12 := by rw [ez_3]; exact (hokR _ (in24 (x := x1) (by omega)).1).1
  have hcz_3 : 1 ≤ (nmT (z_3.toNatClampNeg)).toInt → 0 ≤ (f10 (x1.toNatClampNeg)).toInt ∧ (f10 (x1.toNatClampNeg)).toInt < x1.toInt := by
    rw [ez_3]
    intro h1
    have h := (hokR _ (in24 (x := x1) (by omega)).1).2.1 h1
    have h2 := (in24 (x := x1) (by omega)).2
    omega
  have hdz_3 : (nmT (z_3.toNatClampNeg)).toInt = 2 → 0 ≤ (f11 (x1.toNatClampNeg)).toInt ∧ (f11 (x1.toNatClampNeg)).toInt < x1.toInt := by
    rw [ez_3]
    intro h1
    have h := (hokR _ (in24 (x := x1) (by omega)).1).2.2 h1
    have h2 := (in24 (x := x1) (by omega)).2
    omega
  by_cases k_4 : z_3 = 0
  · obtain rfl := k_4
    refine lv_tableIn (off := 66) (tgt := 88) hx hb dX13_lays_22 (by decide +kernel) (by decide +kernel) (by decide +kernel) (by decide +kernel) ?_
    refine lv_aload_n hx hb dX13_lays_88 rfl (lv_at hl 2 rfl) ?_
    refine lv_lconst (v := 0) hx hb dX13_lays_89 (by decide +kernel) ?_
    refine lv_lconst (v := 1) hx hb dX13_lays_90 (by decide +kernel) ?_
    have hFc := va_free (wc := [(h0, .inr (10, (Value.int (q 0) :: Value.int (q 1) :: Value.int (q 2) :: Value.int (q 3) :: Value.int (q 4) :: Value.int (q 5) :: Value.int (q 6) :: Value.int (q 7) :: Value.ref (a 8) :: Value.ref (a 9) :: Value.ref (a 10) :: Value.ref (a 11) :: Value.ref (a 12) :: Value.ref (a 13) :: Value.int (q 14) :: Value.long v :: Value.long w :: Value.ref (a 17) :: Value.ref (a 18) :: Value.ref (a 19) :: Value.ref (a 20) :: Value.ref (a 21) :: Value.ref (a 22) :: Value.ref (a 23) :: Value.int (q 24) :: Value.ref (a 25) :: Value.int (q 26) :: Value.ref (a 27) :: Value.int (q 28) :: Value.int (q 29) :: Value.int (q 30) :: Value.int (q 31) :: Value.int (q 32) :: Value.int (q 33) :: Value.ref (a 34) :: Value.ref (a 35) :: Value.ref (a 36) :: Value.ref (a 37) :: Value.ref (a 38) :: Value.ref (a 39) :: Value.ref (a 40) :: Value.int (q 41) :: Value.ref (a 42) :: Value.int (q 43) :: Value.int (q 44) :: [])))]) hD hS hA [0] rfl
    refine va_callv (va_runV (As := [.long 0, .long 1]) (rest := []) ⟨hx, hb, hml, hown, hts⟩ (c_X13_becomes l D T _ h0 q v w a 0 1 (show ((q 14) : Int32).toInt = 0 → 1 ≤ (1 : Int64).toInt from (fun _ => by decide))) (cwV 2 hts gX13_lays_X13_becomes rfl rfl rfl hv_X13_becomes ⟨Nat.le_of_ble_eq_true rfl, Nat.le_of_ble_eq_true rfl⟩) (pW_V (q := (RX13, TX13, 45)) (ci := 10) (q0 := 0) hP hE hD rfl rfl [0] (by decide +kernel) rfl rfl) rfl rfl hl.1 rfl (lv_room (Nat.le_of_ble_eq_true rfl)) dX13_lays_91 ⟨Nat.le_of_ble_eq_true rfl, Nat.le_of_ble_eq_true rfl⟩) hS (fun q _ h => hFc q h) hFc (fun u_6 t H1 locs ht hvm hr_5 hB hz1 hk1 hS => ?_)
    obtain ⟨l_7, l_8⟩ := u_6
    obtain ⟨hi0_r_5, hi1_r_5⟩ := hr_5
    have hj0_r_5 : ((q 14) : Int32).toInt = 0 ∨ 1 ≤ w.toInt → 1 ≤ l_8.toInt := hi0_r_5
    have hj1_r_5 : ((q 14) : Int32).toInt = 0 → ((l_7, l_8) : Int64 × Int64) = redW (0 : Int64) (1 : Int64) := hi1_r_5
    obtain ⟨hP1, hD1⟩ := hB
    rw [ht] at hP1
    obtain ⟨hP, hD⟩ := va_repl [(h0, .inr (10, (Value.int (q 0) :: Value.int (q 1) :: Value.int (q 2) :: Value.int (q 3) :: Value.int (q 4) :: Value.int (q 5) :: Value.int (q 6) :: Value.int (q 7) :: Value.ref (a 8) :: Value.ref (a 9) :: Value.ref (a 10) :: Value.ref (a 11) :: Value.ref (a 12) :: Value.ref (a 13) :: Value.int (q 14) :: Value.long l_7 :: Value.long l_8 :: Value.ref (a 17) :: Value.ref (a 18) :: Value.ref (a 19) :: Value.ref (a 20) :: Value.ref (a 21) :: Value.ref (a 22) :: Value.ref (a 23) :: Value.int (q 24) :: Value.ref (a 25) :: Value.int (q 26) :: Value.ref (a 27) :: Value.int (q 28) :: Value.int (q 29) :: Value.int (q 30) :: Value.int (q 31) :: Value.int (q 32) :: Value.int (q 33) :: Value.ref (a 34) :: Value.ref (a 35) :: Value.ref (a 36) :: Value.ref (a 37) :: Value.ref (a 38) :: Value.ref (a 39) :: Value.ref (a 40) :: Value.int (q 41) :: Value.ref (a 42) :: Value.int (q 43) :: Value.int (q 44) :: []))), ((a 8), .inl (T 0, 24, .inl f8)), ((a 9), .inl (T 0, 24, .inl f9)), ((a 10), .inl (T 0, 24, .inl f10)), ((a 11), .inl (T 0, 24, .inl f11)), ((a 17), .inl (T 0, 24, .inl f17)), ((a 20), .inl (T 1, 672, .inr (.inl f20))), ((a 21), .inl (T 1, 672, .inr (.inl f21))), ((a 22), .inl (T 4, 672, .inl f22))] hP hD [0] [0] rfl (by decide +kernel) rfl rfl rfl hk1 hP1
    clear hP1 hD1 hFc
    generalize H1 = H at hP hS ⊢
    exact W.vret hx hb hr (fun t ht hW => ⟨⟨((q 14), l_7, l_8), rfl, ⟨(show isB (q 14) from hB), (show 1 ≤ l_8.toInt from (by first | omega | (subst_vars; omega))), (show mpW (q 14) l_7 l_8 = stepW (lqW (q 0) (q 1) (q 2) (q 3) (q 4) (q 5) (q 6)) f8 f9 f10 f11 f17 (tabW f20 f21 f22) x1 x2 x3 from (lc_0 (by omega) (by rw [← ez_3]; decide) (mp_bec hM0 hj1_r_5 red_01)))⟩, by rw [ht]; exact hP.sub [0, 1, 2, 3, 4, 5, 6, 7, 8] rfl, hD.sub [0, 1, 2, 3, 4, 5, 6, 7, 8] (by decide +kernel) rfl⟩, hS.F ht⟩) hS.2.2 dX13_lays_94
  by_cases k_9 : z_3 = 1
  · obtain rfl := k_9
    refine lv_tableIn (off := 73) (tgt := 95) hx hb dX13_lays_22 (by decide +kernel) (by decide +kernel) (by decide +kernel) (by decide +kernel) ?_
    refine lv_aload_n hx hb dX13_lays_95 rfl (lv_at hl 2 rfl) ?_
    refine lv_lconst (v := 1) hx hb dX13_lays_96 (by decide +kernel) ?_
    refine lv_lconst (v := 1) hx hb dX13_lays_97 (by decide +kernel) ?_
    have hFc := va_free (wc := [(h0, .inr (10, (Value.int (q 0) :: Value.int (q 1) :: Value.int (q 2) :: Value.int (q 3) :: Value.int (q 4) :: Value.int (q 5) :: Value.int (q 6) :: Value.int (q 7) :: Value.ref (a 8) :: Value.ref (a 9) :: Value.ref (a 10) :: Value.ref (a 11) :: Value.ref (a 12) :: Value.ref (a 13) :: Value.int (q 14) :: Value.long v :: Value.long w :: Value.ref (a 17) :: Value.ref (a 18) :: Value.ref (a 19) :: Value.ref (a 20) :: Value.ref (a 21) :: Value.ref (a 22) :: Value.ref (a 23) :: Value.int (q 24) :: Value.ref (a 25) :: Value.int (q 26) :: Value.ref (a 27) :: Value.int (q 28) :: Value.int (q 29) :: Value.int (q 30) :: Value.int (q 31) :: Value.int (q 32) :: Value.int (q 33) :: Value.ref (a 34) :: Value.ref (a 35) :: Value.ref (a 36) :: Value.ref (a 37) :: Value.ref (a 38) :: Value.ref (a 39) :: Value.ref (a 40) :: Value.int (q 41) :: Value.ref (a 42) :: Value.int (q 43) :: Value.int (q 44) :: [])))]) hD hS hA [0] rfl
    refine va_callv (va_runV (As := [.long 1, .long 1]) (rest := []) ⟨hx, hb, hml, hown, hts⟩ (c_X13_becomes l D T _ h0 q v w a 1 1 (show ((q 14) : Int32).toInt = 0 → 1 ≤ (1 : Int64).toInt from (fun _ => by decide))) (cwV 2 hts gX13_lays_X13_becomes rfl rfl rfl hv_X13_becomes ⟨Nat.le_of_ble_eq_true rfl, Nat.le_of_ble_eq_true rfl⟩) (pW_V (q := (RX13, TX13, 45)) (ci := 10) (q0 := 0) hP hE hD rfl rfl [0] (by decide +kernel) rfl rfl) rfl rfl hl.1 rfl (lv_room (Nat.le_of_ble_eq_true rfl)) dX13_lays_98 ⟨Nat.le_of_ble_eq_true rfl, Nat.le_of_ble_eq_true rfl⟩) hS (fun q _ h => hFc q h) hFc (fun u_11 t H1 locs ht hvm hr_10 hB hz1 hk1 hS => ?_)
    obtain ⟨l_12, l_13⟩ := u_11
    obtain ⟨hi0_r_10, hi1_r_10⟩ := hr_10
    have hj0_r_10 : ((q 14) : Int32).toInt = 0 ∨ 1 ≤ w.toInt → 1 ≤ l_13.toInt := hi0_r_10
    have hj1_r_10 : ((q 14) : Int32).toInt = 0 → ((l_12, l_13) : Int64 × Int64) = redW (1 : Int64) (1 : Int64) := hi1_r_10
    obtain ⟨hP1, hD1⟩ := hB
    rw [ht] at hP1
    obtain ⟨hP, hD⟩ := va_repl [(h0, .inr (10, (Value.int (q 0) :: Value.int (q 1) :: Value.int (q 2) :: Value.int (q 3) :: Value.int (q 4) :: Value.int (q 5) :: Value.int (q 6) :: Value.int (q 7) :: Value.ref (a 8) :: Value.ref (a 9) :: Value.ref (a 10) :: Value.ref (a 11) :: Value.ref (a 12) :: Value.ref (a 13) :: Value.int (q 14) :: Value.long l_12 :: Value.long l_13 :: Value.ref (a 17) :: Value.ref (a 18) :: Value.ref (a 19) :: Value.ref (a 20) :: Value.ref (a 21) :: Value.ref (a 22) :: Value.ref (a 23) :: Value.int (q 24) :: Value.ref (a 25) :: Value.int (q 26) :: Value.ref (a 27) :: Value.int (q 28) :: Value.int (q 29) :: Value.int (q 30) :: Value.int (q 31) :: Value.int (q 32) :: Value.int (q 33) :: Value.ref (a 34) :: Value.ref (a 35) :: Value.ref (a 36) :: Value.ref (a 37) :: Value.ref (a 38) :: Value.ref (a 39) :: Value.ref (a 40) :: Value.int (q 41) :: Value.ref (a 42) :: Value.int (q 43) :: Value.int (q 44) :: []))), ((a 8), .inl (T 0, 24, .inl f8)), ((a 9), .inl (T 0, 24, .inl f9)), ((a 10), .inl (T 0, 24, .inl f10)), ((a 11), .inl (T 0, 24, .inl f11)), ((a 17), .inl (T 0, 24, .inl f17)), ((a 20), .inl (T 1, 672, .inr (.inl f20))), ((a 21), .inl (T 1, 672, .inr (.inl f21))), ((a 22), .inl (T 4, 672, .inl f22))] hP hD [0] [0] rfl (by decide +kernel) rfl rfl rfl hk1 hP1
    clear hP1 hD1 hFc
    generalize H1 = H at hP hS ⊢
    exact W.vret hx hb hr (fun t ht hW => ⟨⟨((q 14), l_12, l_13), rfl, ⟨(show isB (q 14) from hB), (show 1 ≤ l_13.toInt from (by first | omega | (subst_vars; omega))), (show mpW (q 14) l_12 l_13 = stepW (lqW (q 0) (q 1) (q 2) (q 3) (q 4) (q 5) (q 6)) f8 f9 f10 f11 f17 (tabW f20 f21 f22) x1 x2 x3 from (lc_1 (by omega) (by rw [← ez_3]; decide) (mp_bec hM0 hj1_r_10 red_11)))⟩, by rw [ht]; exact hP.sub [0, 1, 2, 3, 4, 5, 6, 7, 8] rfl, hD.sub [0, 1, 2, 3, 4, 5, 6, 7, 8] (by decide +kernel) rfl⟩, hS.F ht⟩) hS.2.2 dX13_lays_101
  by_cases k_14 : z_3 = 2
  · obtain rfl := k_14
    refine lv_tableIn (off := 80) (tgt := 102) hx hb dX13_lays_22 (by decide +kernel) (by decide +kernel) (by decide +kernel) (by decide +kernel) ?_
    have hc9 := hcz_3 (by decide +kernel)
    refine lv_aload_n hx hb dX13_lays_102 rfl (lv_at hl 2 rfl) ?_
    refine lv_iload hx hb dX13_lays_103 (lv_at hl 1 rfl) ?_
    refine lv_iload_n hx hb dX13_lays_105 rfl (lv_at hl 4 rfl) ?_
    refine lv_iload_n hx hb dX13_lays_106 rfl (lv_at hl 5 rfl) ?_
    have hFc := va_free (wc := [(h0, .inr (10, (Value.int (q 0) :: Value.int (q 1) :: Value.int (q 2) :: Value.int (q 3) :: Value.int (q 4) :: Value.int (q 5) :: Value.int (q 6) :: Value.int (q 7) :: Value.ref (a 8) :: Value.ref (a 9) :: Value.ref (a 10) :: Value.ref (a 11) :: Value.ref (a 12) :: Value.ref (a 13) :: Value.int (q 14) :: Value.long v :: Value.long w :: Value.ref (a 17) :: Value.ref (a 18) :: Value.ref (a 19) :: Value.ref (a 20) :: Value.ref (a 21) :: Value.ref (a 22) :: Value.ref (a 23) :: Value.int (q 24) :: Value.ref (a 25) :: Value.int (q 26) :: Value.ref (a 27) :: Value.int (q 28) :: Value.int (q 29) :: Value.int (q 30) :: Value.int (q 31) :: Value.int (q 32) :: Value.int (q 33) :: Value.ref (a 34) :: Value.ref (a 35) :: Value.ref (a 36) :: Value.ref (a 37) :: Value.ref (a 38) :: Value.ref (a 39) :: Value.ref (a 40) :: Value.int (q 41) :: Value.ref (a 42) :: Value.int (q 43) :: Value.int (q 44) :: []))), ((a 20), .inl (T 1, 672, .inr (.inl f20))), ((a 21), .inl (T 1, 672, .inr (.inl f21))), ((a 22), .inl (T 4, 672, .inl f22))]) hD hS hA [0, 6, 7, 8] rfl
    refine va_callv (va_runV (As := [.int z_1, .int x2, .int x3]) (rest := []) ⟨hx, hb, hml, hown, hts⟩ (c_X13_takes l D T _ h0 q v w a f20 f21 f22 z_1 x2 x3 (show isB (q 14) from hB) (show ∀ j : Nat, isB (f22 j) from hZ) (show 0 ≤ z_1.toInt ∧ z_1.toInt < 24 from (by omega)) (show 0 ≤ x2.toInt ∧ x2.toInt ≤ 6 from (by omega)) (show 0 ≤ x3.toInt ∧ x3.toInt ≤ x2.toInt from (by omega)) (show ∀ j : Nat, (j : Int) = 28 * z_1.toInt + tri x2.toInt + x3.toInt → 1 ≤ (f21 j).toInt from (fun j hj => hWB.1 j (by omega)))) (cwV 3 hts gX13_lays_X13_takes rfl rfl rfl hv_X13_takes ⟨Nat.le_of_ble_eq_true rfl, Nat.le_of_ble_eq_true rfl⟩) (pW_V (q := (RX13, TX13, 45)) (ci := 10) (q0 := 0) hP hE hD rfl rfl [0, 6, 7, 8] (by decide +kernel) rfl rfl) rfl rfl hl.1 rfl (lv_room (Nat.le_of_ble_eq_true rfl)) dX13_lays_107 ⟨Nat.le_of_ble_eq_true rfl, Nat.le_of_ble_eq_true rfl⟩) hS (fun q _ h => hFc q h) hFc (fun u_16 t H1 locs ht hvm hr_15 hB hz1 hk1 hS => ?_)
    obtain ⟨n_17, l_18, l_19⟩ := u_16
    obtain ⟨hi0_r_15, hi1_r_15, hi2_r_15, hi3_r_15, hi4_r_15⟩ := hr_15
    have hB14_r_15 : isB n_17 := hi0_r_15
    have hj1_r_15 : 1 ≤ l_19.toInt := hi1_r_15
    have hj2_r_15 : (n_17 : Int32).toInt = 0 ↔ (((q 14) : Int32).toInt = 0 ∧ (f22 (slN z_1 x2 x3)).toInt = 0) := hi2_r_15
    have hj3_r_15 : l_18 = f20 (slN z_1 x2 x3) := hi3_r_15
    have hj4_r_15 : l_19 = f21 (slN z_1 x2 x3) := hi4_r_15
    obtain ⟨hP1, hD1⟩ := hB
    rw [ht] at hP1
    obtain ⟨hP, hD⟩ := va_repl [(h0, .inr (10, (Value.int (q 0) :: Value.int (q 1) :: Value.int (q 2) :: Value.int (q 3) :: Value.int (q 4) :: Value.int (q 5) :: Value.int (q 6) :: Value.int (q 7) :: Value.ref (a 8) :: Value.ref (a 9) :: Value.ref (a 10) :: Value.ref (a 11) :: Value.ref (a 12) :: Value.ref (a 13) :: Value.int n_17 :: Value.long l_18 :: Value.long l_19 :: Value.ref (a 17) :: Value.ref (a 18) :: Value.ref (a 19) :: Value.ref (a 20) :: Value.ref (a 21) :: Value.ref (a 22) :: Value.ref (a 23) :: Value.int (q 24) :: Value.ref (a 25) :: Value.int (q 26) :: Value.ref (a 27) :: Value.int (q 28) :: Value.int (q 29) :: Value.int (q 30) :: Value.int (q 31) :: Value.int (q 32) :: Value.int (q 33) :: Value.ref (a 34) :: Value.ref (a 35) :: Value.ref (a 36) :: Value.ref (a 37) :: Value.ref (a 38) :: Value.ref (a 39) :: Value.ref (a 40) :: Value.int (q 41) :: Value.ref (a 42) :: Value.int (q 43) :: Value.int (q 44) :: []))), ((a 8), .inl (T 0, 24, .inl f8)), ((a 9), .inl (T 0, 24, .inl f9)), ((a 10), .inl (T 0, 24, .inl f10)), ((a 11), .inl (T 0, 24, .inl f11)), ((a 17), .inl (T 0, 24, .inl f17)), ((a 20), .inl (T 1, 672, .inr (.inl f20))), ((a 21), .inl (T 1, 672, .inr (.inl f21))), ((a 22), .inl (T 4, 672, .inl f22))] hP hD [0, 6, 7, 8] [0, 6, 7, 8] rfl (by decide +kernel) rfl rfl rfl hk1 hP1
    clear hP1 hD1 hFc
    generalize H1 = H at hP hS ⊢
    refine lv_aload_n hx hb dX13_lays_110 rfl (lv_at hl 2 rfl) ?_
    refine lv_ldc2 (v := (-1)) hx hb hown (hts (.constantLong RX13 135 (-1)) (List.mem_of_getElem? (i := 4) rfl)) dX13_lays_111 ?_
    refine lv_lconst (v := 1) hx hb dX13_lays_114 (by decide +kernel) ?_
    refine lv_aload_n hx hb dX13_lays_115 rfl (lv_at hl 2 rfl) ?_
    refine va_get (D := D) (ci := 10) (v := .long l_18) (C := RX13) (T := TX13) (N := 45) hx hb hts in_X13_lays_X13 hown hE.1 hP 0 rfl rfl 15 (by decide +kernel) (hts (.fieldLink RX13 145 "ClauseBookModel" "above" "J") (List.mem_of_getElem? (i := 5) rfl)) (fun _ h9 => h9) rfl dX13_lays_116 ?_
    refine lv_aload_n hx hb dX13_lays_119 rfl (lv_at hl 2 rfl) ?_
    refine va_get (D := D) (ci := 10) (v := .long l_19) (C := RX13) (T := TX13) (N := 45) hx hb hts in_X13_lays_X13 hown hE.1 hP 0 rfl rfl 16 (by decide +kernel) (hts (.fieldLink RX13 149 "ClauseBookModel" "below" "J") (List.mem_of_getElem? (i := 6) rfl)) (fun _ h9 => h9) rfl dX13_lays_120 ?_
    have hFc := va_free (wc := [(h0, .inr (10, (Value.int (q 0) :: Value.int (q 1) :: Value.int (q 2) :: Value.int (q 3) :: Value.int (q 4) :: Value.int (q 5) :: Value.int (q 6) :: Value.int (q 7) :: Value.ref (a 8) :: Value.ref (a 9) :: Value.ref (a 10) :: Value.ref (a 11) :: Value.ref (a 12) :: Value.ref (a 13) :: Value.int n_17 :: Value.long l_18 :: Value.long l_19 :: Value.ref (a 17) :: Value.ref (a 18) :: Value.ref (a 19) :: Value.ref (a 20) :: Value.ref (a 21) :: Value.ref (a 22) :: Value.ref (a 23) :: Value.int (q 24) :: Value.ref (a 25) :: Value.int (q 26) :: Value.ref (a 27) :: Value.int (q 28) :: Value.int (q 29) :: Value.int (q 30) :: Value.int (q 31) :: Value.int (q 32) :: Value.int (q 33) :: Value.ref (a 34) :: Value.ref (a 35) :: Value.ref (a 36) :: Value.ref (a 37) :: Value.ref (a 38) :: Value.ref (a 39) :: Value.ref (a 40) :: Value.int (q 41) :: Value.ref (a 42) :: Value.int (q 43) :: Value.int (q 44) :: [])))]) hD hS hA [0] rfl
    refine va_callv (va_runV (As := [.long (-1), .long 1, .long l_18, .long l_19]) (rest := []) ⟨hx, hb, hml, hown, hts⟩ (c_X13_multiplies l D T _ h0 (fun k => cond (Nat.beq k 14) n_17 (q k)) l_18 l_19 a (-1) 1 l_18 l_19 (show isB n_17 from hB14_r_15) (show 1 ≤ (1 : Int64).toInt from (by decide +kernel)) (show 1 ≤ l_19.toInt from (by omega)) (show 1 ≤ l_19.toInt from (by omega))) (cwV 4 hts gX13_lays_X13_multiplies rfl rfl rfl hv_X13_multiplies ⟨Nat.le_of_ble_eq_true rfl, Nat.le_of_ble_eq_true rfl⟩) (pW_V (q := (RX13, TX13, 45)) (ci := 10) (q0 := 0) hP hE hD rfl rfl [0] (by decide +kernel) rfl rfl) rfl rfl hl.1 rfl (lv_room (Nat.le_of_ble_eq_true rfl)) dX13_lays_123 ⟨Nat.le_of_ble_eq_true rfl, Nat.le_of_ble_eq_true rfl⟩) hS (fun q _ h => hFc q h) hFc (fun u_21 t H1 locs ht hvm hr_20 hB hz1 hk1 hS => ?_)
    obtain ⟨n_22, l_23, l_24⟩ := u_21
    obtain ⟨hi0_r_20, hi1_r_20, hi2_r_20, hi3_r_20⟩ := hr_20
    have hB14_r_20 : isB n_22 := hi0_r_20
    have hj1_r_20 : 1 ≤ l_24.toInt := hi1_r_20
    have hj2_r_20 : (n_22 : Int32).toInt = 0 ↔ ((n_17 : Int32).toInt = 0 ∧ fitM ((-1) : Int64) l_18 ∧ fitM (1 : Int64) l_19) := hi2_r_20
    have hj3_r_20 : (n_22 : Int32).toInt = 0 → ((l_23, l_24) : Int64 × Int64) = redW (((-1) : Int64) * l_18) ((1 : Int64) * l_19) := hi3_r_20
    obtain ⟨hP1, hD1⟩ := hB
    rw [ht] at hP1
    obtain ⟨hP, hD⟩ := va_repl [(h0, .inr (10, (Value.int (q 0) :: Value.int (q 1) :: Value.int (q 2) :: Value.int (q 3) :: Value.int (q 4) :: Value.int (q 5) :: Value.int (q 6) :: Value.int (q 7) :: Value.ref (a 8) :: Value.ref (a 9) :: Value.ref (a 10) :: Value.ref (a 11) :: Value.ref (a 12) :: Value.ref (a 13) :: Value.int n_22 :: Value.long l_23 :: Value.long l_24 :: Value.ref (a 17) :: Value.ref (a 18) :: Value.ref (a 19) :: Value.ref (a 20) :: Value.ref (a 21) :: Value.ref (a 22) :: Value.ref (a 23) :: Value.int (q 24) :: Value.ref (a 25) :: Value.int (q 26) :: Value.ref (a 27) :: Value.int (q 28) :: Value.int (q 29) :: Value.int (q 30) :: Value.int (q 31) :: Value.int (q 32) :: Value.int (q 33) :: Value.ref (a 34) :: Value.ref (a 35) :: Value.ref (a 36) :: Value.ref (a 37) :: Value.ref (a 38) :: Value.ref (a 39) :: Value.ref (a 40) :: Value.int (q 41) :: Value.ref (a 42) :: Value.int (q 43) :: Value.int (q 44) :: []))), ((a 8), .inl (T 0, 24, .inl f8)), ((a 9), .inl (T 0, 24, .inl f9)), ((a 10), .inl (T 0, 24, .inl f10)), ((a 11), .inl (T 0, 24, .inl f11)), ((a 17), .inl (T 0, 24, .inl f17)), ((a 20), .inl (T 1, 672, .inr (.inl f20))), ((a 21), .inl (T 1, 672, .inr (.inl f21))), ((a 22), .inl (T 4, 672, .inl f22))] hP hD [0] [0] rfl (by decide +kernel) rfl rfl rfl hk1 hP1
    clear hP1 hD1 hFc
    generalize H1 = H at hP hS ⊢
    exact W.vret hx hb hr (fun t ht hW => ⟨⟨(n_22, l_23, l_24), rfl, ⟨(show isB n_22 from hB14_r_20), (show 1 ≤ l_24.toInt from (by first | omega | (subst_vars; omega))), (show mpW n_22 l_23 l_24 = stepW (lqW (q 0) (q 1) (q 2) (q 3) (q 4) (q 5) (q 6)) f8 f9 f10 f11 f17 (tabW f20 f21 f22) x1 x2 x3 from (by
                                                            have k2 := ref_mul (tk_mp hM0 hj2_r_15 hj3_r_15 hj4_r_15) hj1_r_15 hj2_r_20 hj3_r_20
                                                            rw [ez_1] at k2
                                                            exact lc_2 (by omega) (by rw [← ez_3]; decide) k2))⟩, by rw [ht]; exact hP.sub [0, 1, 2, 3, 4, 5, 6, 7, 8] rfl, hD.sub [0, 1, 2, 3, 4, 5, 6, 7, 8] (by decide +kernel) rfl⟩, hS.F ht⟩) hS.2.2 dX13_lays_126
  by_cases k_25 : z_3 = 3
  · obtain rfl := k_25
    refine lv_tableIn (off := 105) (tgt := 127) hx hb dX13_lays_22 (by decide +kernel) (by decide +kernel) (by decide +kernel) (by decide +kernel) ?_
    have hc9 := hcz_3 (by decide +kernel)
    refine lv_aload_n hx hb dX13_lays_127 rfl (lv_at hl 2 rfl) ?_
    refine lv_iload hx hb dX13_lays_128 (lv_at hl 1 rfl) ?_
    refine lv_iload_n hx hb dX13_lays_130 rfl (lv_at hl 4 rfl) ?_
    refine lv_iload_n hx hb dX13_lays_131 rfl (lv_at hl 5 rfl) ?_
    have hFc := va_free (wc := [(h0, .inr (10, (Value.int (q 0) :: Value.int (q 1) :: Value.int (q 2) :: Value.int (q 3) :: Value.int (q 4) :: Value.int (q 5) :: Value.int (q 6) :: Value.int (q 7) :: Value.ref (a 8) :: Value.ref (a 9) :: Value.ref (a 10) :: Value.ref (a 11) :: Value.ref (a 12) :: Value.ref (a 13) :: Value.int (q 14) :: Value.long v :: Value.long w :: Value.ref (a 17) :: Value.ref (a 18) :: Value.ref (a 19) :: Value.ref (a 20) :: Value.ref (a 21) :: Value.ref (a 22) :: Value.ref (a 23) :: Value.int (q 24) :: Value.ref (a 25) :: Value.int (q 26) :: Value.ref (a 27) :: Value.int (q 28) :: Value.int (q 29) :: Value.int (q 30) :: Value.int (q 31) :: Value.int (q 32) :: Value.int (q 33) :: Value.ref (a 34) :: Value.ref (a 35) :: Value.ref (a 36) :: Value.ref (a 37) :: Value.ref (a 38) :: Value.ref (a 39) :: Value.ref (a 40) :: Value.int (q 41) :: Value.ref (a 42) :: Value.int (q 43) :: Value.int (q 44) :: []))), ((a 20), .inl (T 1, 672, .inr (.inl f20))), ((a 21), .inl (T 1, 672, .inr (.inl f21))), ((a 22), .inl (T 4, 672, .inl f22))]) hD hS hA [0, 6, 7, 8] rfl
    refine va_callv (va_runV (As := [.int z_1, .int x2, .int x3]) (rest := []) ⟨hx, hb, hml, hown, hts⟩ (c_X13_takes l D T _ h0 q v w a f20 f21 f22 z_1 x2 x3 (show isB (q 14) from hB) (show ∀ j : Nat, isB (f22 j) from hZ) (show 0 ≤ z_1.toInt ∧ z_1.toInt < 24 from (by omega)) (show 0 ≤ x2.toInt ∧ x2.toInt ≤ 6 from (by omega)) (show 0 ≤ x3.toInt ∧ x3.toInt ≤ x2.toInt from (by omega)) (show ∀ j : Nat, (j : Int) = 28 * z_1.toInt + tri x2.toInt + x3.toInt → 1 ≤ (f21 j).toInt from (fun j hj => hWB.1 j (by omega)))) (cwV 3 hts gX13_lays_X13_takes rfl rfl rfl hv_X13_takes ⟨Nat.le_of_ble_eq_true rfl, Nat.le_of_ble_eq_true rfl⟩) (pW_V (q := (RX13, TX13, 45)) (ci := 10) (q0 := 0) hP hE hD rfl rfl [0, 6, 7, 8] (by decide +kernel) rfl rfl) rfl rfl hl.1 rfl (lv_room (Nat.le_of_ble_eq_true rfl)) dX13_lays_132 ⟨Nat.le_of_ble_eq_true rfl, Nat.le_of_ble_eq_true rfl⟩) hS (fun q _ h => hFc q h) hFc (fun u_27 t H1 locs ht hvm hr_26 hB hz1 hk1 hS => ?_)
    obtain ⟨n_28, l_29, l_30⟩ := u_27
    obtain ⟨hi0_r_26, hi1_r_26, hi2_r_26, hi3_r_26, hi4_r_26⟩ := hr_26
    have hB14_r_26 : isB n_28 := hi0_r_26
    have hj1_r_26 : 1 ≤ l_30.toInt := hi1_r_26
    have hj2_r_26 : (n_28 : Int32).toInt = 0 ↔ (((q 14) : Int32).toInt = 0 ∧ (f22 (slN z_1 x2 x3)).toInt = 0) := hi2_r_26
    have hj3_r_26 : l_29 = f20 (slN z_1 x2 x3) := hi3_r_26
    have hj4_r_26 : l_30 = f21 (slN z_1 x2 x3) := hi4_r_26
    obtain ⟨hP1, hD1⟩ := hB
    rw [ht] at hP1
    obtain ⟨hP, hD⟩ := va_repl [(h0, .inr (10, (Value.int (q 0) :: Value.int (q 1) :: Value.int (q 2) :: Value.int (q 3) :: Value.int (q 4) :: Value.int (q 5) :: Value.int (q 6) :: Value.int (q 7) :: Value.ref (a 8) :: Value.ref (a 9) :: Value.ref (a 10) :: Value.ref (a 11) :: Value.ref (a 12) :: Value.ref (a 13) :: Value.int n_28 :: Value.long l_29 :: Value.long l_30 :: Value.ref (a 17) :: Value.ref (a 18) :: Value.ref (a 19) :: Value.ref (a 20) :: Value.ref (a 21) :: Value.ref (a 22) :: Value.ref (a 23) :: Value.int (q 24) :: Value.ref (a 25) :: Value.int (q 26) :: Value.ref (a 27) :: Value.int (q 28) :: Value.int (q 29) :: Value.int (q 30) :: Value.int (q 31) :: Value.int (q 32) :: Value.int (q 33) :: Value.ref (a 34) :: Value.ref (a 35) :: Value.ref (a 36) :: Value.ref (a 37) :: Value.ref (a 38) :: Value.ref (a 39) :: Value.ref (a 40) :: Value.int (q 41) :: Value.ref (a 42) :: Value.int (q 43) :: Value.int (q 44) :: []))), ((a 8), .inl (T 0, 24, .inl f8)), ((a 9), .inl (T 0, 24, .inl f9)), ((a 10), .inl (T 0, 24, .inl f10)), ((a 11), .inl (T 0, 24, .inl f11)), ((a 17), .inl (T 0, 24, .inl f17)), ((a 20), .inl (T 1, 672, .inr (.inl f20))), ((a 21), .inl (T 1, 672, .inr (.inl f21))), ((a 22), .inl (T 4, 672, .inl f22))] hP hD [0, 6, 7, 8] [0, 6, 7, 8] rfl (by decide +kernel) rfl rfl rfl hk1 hP1
    clear hP1 hD1 hFc
    generalize H1 = H at hP hS ⊢
    refine lv_aload_n hx hb dX13_lays_135 rfl (lv_at hl 2 rfl) ?_
    refine lv_aload_n hx hb dX13_lays_136 rfl (lv_at hl 2 rfl) ?_
    refine va_get (D := D) (ci := 10) (v := .ref (a 9)) (C := RX13) (T := TX13) (N := 45) hx hb hts in_X13_lays_X13 hown hE.1 hP 0 rfl rfl 9 (by decide +kernel) (hts (.fieldLink RX13 32 "ClauseBookModel" "number" "[I") (List.mem_of_getElem? (i := 7) rfl)) (fun _ h9 => h9) rfl dX13_lays_137 ?_
    refine lv_iload_n hx hb dX13_lays_140 rfl (lv_at hl 3 rfl) ?_
    refine va_iald hx hb hE.1 hP 2 0 rfl rfl (by rw [vp_in_iff]; first | omega | (subst_vars; omega)) dX13_lays_141 ?_
    refine lv_topi (fun z_31 ez_31 => ?_)
    refine lv_i2l hx hb dX13_lays_142 rfl ?_
    refine lv_lconst (v := 1) hx hb dX13_lays_143 (by decide +kernel) ?_
    refine lv_aload_n hx hb dX13_lays_144 rfl (lv_at hl 2 rfl) ?_
    refine va_get (D := D) (ci := 10) (v := .long l_29) (C := RX13) (T := TX13) (N := 45) hx hb hts in_X13_lays_X13 hown hE.1 hP 0 rfl rfl 15 (by decide +kernel) (hts (.fieldLink RX13 145 "ClauseBookModel" "above" "J") (List.mem_of_getElem? (i := 5) rfl)) (fun _ h9 => h9) rfl dX13_lays_145 ?_
    refine lv_aload_n hx hb dX13_lays_148 rfl (lv_at hl 2 rfl) ?_
    refine va_get (D := D) (ci := 10) (v := .long l_30) (C := RX13) (T := TX13) (N := 45) hx hb hts in_X13_lays_X13 hown hE.1 hP 0 rfl rfl 16 (by decide +kernel) (hts (.fieldLink RX13 149 "ClauseBookModel" "below" "J") (List.mem_of_getElem? (i := 6) rfl)) (fun _ h9 => h9) rfl dX13_lays_149 ?_
    have hFc := va_free (wc := [(h0, .inr (10, (Value.int (q 0) :: Value.int (q 1) :: Value.int (q 2) :: Value.int (q 3) :: Value.int (q 4) :: Value.int (q 5) :: Value.int (q 6) :: Value.int (q 7) :: Value.ref (a 8) :: Value.ref (a 9) :: Value.ref (a 10) :: Value.ref (a 11) :: Value.ref (a 12) :: Value.ref (a 13) :: Value.int n_28 :: Value.long l_29 :: Value.long l_30 :: Value.ref (a 17) :: Value.ref (a 18) :: Value.ref (a 19) :: Value.ref (a 20) :: Value.ref (a 21) :: Value.ref (a 22) :: Value.ref (a 23) :: Value.int (q 24) :: Value.ref (a 25) :: Value.int (q 26) :: Value.ref (a 27) :: Value.int (q 28) :: Value.int (q 29) :: Value.int (q 30) :: Value.int (q 31) :: Value.int (q 32) :: Value.int (q 33) :: Value.ref (a 34) :: Value.ref (a 35) :: Value.ref (a 36) :: Value.ref (a 37) :: Value.ref (a 38) :: Value.ref (a 39) :: Value.ref (a 40) :: Value.int (q 41) :: Value.ref (a 42) :: Value.int (q 43) :: Value.int (q 44) :: [])))]) hD hS hA [0] rfl
    refine va_callv (va_runV (As := [.long (z_31.toInt64), .long 1, .long l_29, .long l_30]) (rest := []) ⟨hx, hb, hml, hown, hts⟩ (c_X13_multiplies l D T _ h0 (fun k => cond (Nat.beq k 14) n_28 (q k)) l_29 l_30 a (z_31.toInt64) 1 l_29 l_30 (show isB n_28 from hB14_r_26) (show 1 ≤ (1 : Int64).toInt from (by decide +kernel)) (show 1 ≤ l_30.toInt from (by omega)) (show 1 ≤ l_30.toInt from (by omega))) (cwV 4 hts gX13_lays_X13_multiplies rfl rfl rfl hv_X13_multiplies ⟨Nat.le_of_ble_eq_true rfl, Nat.le_of_ble_eq_true rfl⟩) (pW_V (q := (RX13, TX13, 45)) (ci := 10) (q0 := 0) hP hE hD rfl rfl [0] (by decide +kernel) rfl rfl) rfl rfl hl.1 rfl (lv_room (Nat.le_of_ble_eq_true rfl)) dX13_lays_152 ⟨Nat.le_of_ble_eq_true rfl, Nat.le_of_ble_eq_true rfl⟩) hS (fun q _ h => hFc q h) hFc (fun u_33 t H1 locs ht hvm hr_32 hB hz1 hk1 hS => ?_)
    obtain ⟨n_34, l_35, l_36⟩ := u_33
    obtain ⟨hi0_r_32, hi1_r_32, hi2_r_32, hi3_r_32⟩ := hr_32
    have hB14_r_32 : isB n_34 := hi0_r_32
    have hj1_r_32 : 1 ≤ l_36.toInt := hi1_r_32
    have hj2_r_32 : (n_34 : Int32).toInt = 0 ↔ ((n_28 : Int32).toInt = 0 ∧ fitM (z_31.toInt64) l_29 ∧ fitM (1 : Int64) l_30) := hi2_r_32
    have hj3_r_32 : (n_34 : Int32).toInt = 0 → ((l_35, l_36) : Int64 × Int64) = redW ((z_31.toInt64) * l_29) ((1 : Int64) * l_30) := hi3_r_32
    obtain ⟨hP1, hD1⟩ := hB
    rw [ht] at hP1
    obtain ⟨hP, hD⟩ := va_repl [(h0, .inr (10, (Value.int (q 0) :: Value.int (q 1) :: Value.int (q 2) :: Value.int (q 3) :: Value.int (q 4) :: Value.int (q 5) :: Value.int (q 6) :: Value.int (q 7) :: Value.ref (a 8) :: Value.ref (a 9) :: Value.ref (a 10) :: Value.ref (a 11) :: Value.ref (a 12) :: Value.ref (a 13) :: Value.int n_34 :: Value.long l_35 :: Value.long l_36 :: Value.ref (a 17) :: Value.ref (a 18) :: Value.ref (a 19) :: Value.ref (a 20) :: Value.ref (a 21) :: Value.ref (a 22) :: Value.ref (a 23) :: Value.int (q 24) :: Value.ref (a 25) :: Value.int (q 26) :: Value.ref (a 27) :: Value.int (q 28) :: Value.int (q 29) :: Value.int (q 30) :: Value.int (q 31) :: Value.int (q 32) :: Value.int (q 33) :: Value.ref (a 34) :: Value.ref (a 35) :: Value.ref (a 36) :: Value.ref (a 37) :: Value.ref (a 38) :: Value.ref (a 39) :: Value.ref (a 40) :: Value.int (q 41) :: Value.ref (a 42) :: Value.int (q 43) :: Value.int (q 44) :: []))), ((a 8), .inl (T 0, 24, .inl f8)), ((a 9), .inl (T 0, 24, .inl f9)), ((a 10), .inl (T 0, 24, .inl f10)), ((a 11), .inl (T 0, 24, .inl f11)), ((a 17), .inl (T 0, 24, .inl f17)), ((a 20), .inl (T 1, 672, .inr (.inl f20))), ((a 21), .inl (T 1, 672, .inr (.inl f21))), ((a 22), .inl (T 4, 672, .inl f22))] hP hD [0] [0] rfl (by decide +kernel) rfl rfl rfl hk1 hP1
    clear hP1 hD1 hFc
    generalize H1 = H at hP hS ⊢
    exact W.vret hx hb hr (fun t ht hW => ⟨⟨(n_34, l_35, l_36), rfl, ⟨(show isB n_34 from hB14_r_32), (show 1 ≤ l_36.toInt from (by first | omega | (subst_vars; omega))), (show mpW n_34 l_35 l_36 = stepW (lqW (q 0) (q 1) (q 2) (q 3) (q 4) (q 5) (q 6)) f8 f9 f10 f11 f17 (tabW f20 f21 f22) x1 x2 x3 from (by
                                                            have k2 := ref_mul (tk_mp hM0 hj2_r_26 hj3_r_26 hj4_r_26) hj1_r_26 hj2_r_32 hj3_r_32
                                                            rw [ez_1, ez_31] at k2
                                                            exact lc_3 (by omega) (by rw [← ez_3]; decide) k2))⟩, by rw [ht]; exact hP.sub [0, 1, 2, 3, 4, 5, 6, 7, 8] rfl, hD.sub [0, 1, 2, 3, 4, 5, 6, 7, 8] (by decide +kernel) rfl⟩, hS.F ht⟩) hS.2.2 dX13_lays_155
  by_cases k_37 : z_3 = 4
  · obtain rfl := k_37
    refine lv_tableIn (off := 134) (tgt := 156) hx hb dX13_lays_22 (by decide +kernel) (by decide +kernel) (by decide +kernel) (by decide +kernel) ?_
    have hc9 := hcz_3 (by decide +kernel)
    refine lv_aload_n hx hb dX13_lays_156 rfl (lv_at hl 2 rfl) ?_
    refine lv_iload hx hb dX13_lays_157 (lv_at hl 1 rfl) ?_
    refine lv_iload_n hx hb dX13_lays_159 rfl (lv_at hl 4 rfl) ?_
    refine lv_iload_n hx hb dX13_lays_160 rfl (lv_at hl 5 rfl) ?_
    have hFc := va_free (wc := [(h0, .inr (10, (Value.int (q 0) :: Value.int (q 1) :: Value.int (q 2) :: Value.int (q 3) :: Value.int (q 4) :: Value.int (q 5) :: Value.int (q 6) :: Value.int (q 7) :: Value.ref (a 8) :: Value.ref (a 9) :: Value.ref (a 10) :: Value.ref (a 11) :: Value.ref (a 12) :: Value.ref (a 13) :: Value.int (q 14) :: Value.long v :: Value.long w :: Value.ref (a 17) :: Value.ref (a 18) :: Value.ref (a 19) :: Value.ref (a 20) :: Value.ref (a 21) :: Value.ref (a 22) :: Value.ref (a 23) :: Value.int (q 24) :: Value.ref (a 25) :: Value.int (q 26) :: Value.ref (a 27) :: Value.int (q 28) :: Value.int (q 29) :: Value.int (q 30) :: Value.int (q 31) :: Value.int (q 32) :: Value.int (q 33) :: Value.ref (a 34) :: Value.ref (a 35) :: Value.ref (a 36) :: Value.ref (a 37) :: Value.ref (a 38) :: Value.ref (a 39) :: Value.ref (a 40) :: Value.int (q 41) :: Value.ref (a 42) :: Value.int (q 43) :: Value.int (q 44) :: []))), ((a 20), .inl (T 1, 672, .inr (.inl f20))), ((a 21), .inl (T 1, 672, .inr (.inl f21))), ((a 22), .inl (T 4, 672, .inl f22))]) hD hS hA [0, 6, 7, 8] rfl
    refine va_callv (va_runV (As := [.int z_1, .int x2, .int x3]) (rest := []) ⟨hx, hb, hml, hown, hts⟩ (c_X13_takes l D T _ h0 q v w a f20 f21 f22 z_1 x2 x3 (show isB (q 14) from hB) (show ∀ j : Nat, isB (f22 j) from hZ) (show 0 ≤ z_1.toInt ∧ z_1.toInt < 24 from (by omega)) (show 0 ≤ x2.toInt ∧ x2.toInt ≤ 6 from (by omega)) (show 0 ≤ x3.toInt ∧ x3.toInt ≤ x2.toInt from (by omega)) (show ∀ j : Nat, (j : Int) = 28 * z_1.toInt + tri x2.toInt + x3.toInt → 1 ≤ (f21 j).toInt from (fun j hj => hWB.1 j (by omega)))) (cwV 3 hts gX13_lays_X13_takes rfl rfl rfl hv_X13_takes ⟨Nat.le_of_ble_eq_true rfl, Nat.le_of_ble_eq_true rfl⟩) (pW_V (q := (RX13, TX13, 45)) (ci := 10) (q0 := 0) hP hE hD rfl rfl [0, 6, 7, 8] (by decide +kernel) rfl rfl) rfl rfl hl.1 rfl (lv_room (Nat.le_of_ble_eq_true rfl)) dX13_lays_161 ⟨Nat.le_of_ble_eq_true rfl, Nat.le_of_ble_eq_true rfl⟩) hS (fun q _ h => hFc q h) hFc (fun u_39 t H1 locs ht hvm hr_38 hB hz1 hk1 hS => ?_)
    obtain ⟨n_40, l_41, l_42⟩ := u_39
    obtain ⟨hi0_r_38, hi1_r_38, hi2_r_38, hi3_r_38, hi4_r_38⟩ := hr_38
    have hB14_r_38 : isB n_40 := hi0_r_38
    have hj1_r_38 : 1 ≤ l_42.toInt := hi1_r_38
    have hj2_r_38 : (n_40 : Int32).toInt = 0 ↔ (((q 14) : Int32).toInt = 0 ∧ (f22 (slN z_1 x2 x3)).toInt = 0) := hi2_r_38
    have hj3_r_38 : l_41 = f20 (slN z_1 x2 x3) := hi3_r_38
    have hj4_r_38 : l_42 = f21 (slN z_1 x2 x3) := hi4_r_38
    obtain ⟨hP1, hD1⟩ := hB
    rw [ht] at hP1
    obtain ⟨hP, hD⟩ := va_repl [(h0, .inr (10, (Value.int (q 0) :: Value.int (q 1) :: Value.int (q 2) :: Value.int (q 3) :: Value.int (q 4) :: Value.int (q 5) :: Value.int (q 6) :: Value.int (q 7) :: Value.ref (a 8) :: Value.ref (a 9) :: Value.ref (a 10) :: Value.ref (a 11) :: Value.ref (a 12) :: Value.ref (a 13) :: Value.int n_40 :: Value.long l_41 :: Value.long l_42 :: Value.ref (a 17) :: Value.ref (a 18) :: Value.ref (a 19) :: Value.ref (a 20) :: Value.ref (a 21) :: Value.ref (a 22) :: Value.ref (a 23) :: Value.int (q 24) :: Value.ref (a 25) :: Value.int (q 26) :: Value.ref (a 27) :: Value.int (q 28) :: Value.int (q 29) :: Value.int (q 30) :: Value.int (q 31) :: Value.int (q 32) :: Value.int (q 33) :: Value.ref (a 34) :: Value.ref (a 35) :: Value.ref (a 36) :: Value.ref (a 37) :: Value.ref (a 38) :: Value.ref (a 39) :: Value.ref (a 40) :: Value.int (q 41) :: Value.ref (a 42) :: Value.int (q 43) :: Value.int (q 44) :: []))), ((a 8), .inl (T 0, 24, .inl f8)), ((a 9), .inl (T 0, 24, .inl f9)), ((a 10), .inl (T 0, 24, .inl f10)), ((a 11), .inl (T 0, 24, .inl f11)), ((a 17), .inl (T 0, 24, .inl f17)), ((a 20), .inl (T 1, 672, .inr (.inl f20))), ((a 21), .inl (T 1, 672, .inr (.inl f21))), ((a 22), .inl (T 4, 672, .inl f22))] hP hD [0, 6, 7, 8] [0, 6, 7, 8] rfl (by decide +kernel) rfl rfl rfl hk1 hP1
    clear hP1 hD1 hFc
    generalize H1 = H at hP hS ⊢
    refine lv_aload_n hx hb dX13_lays_164 rfl (lv_at hl 2 rfl) ?_
    refine lv_aload_n hx hb dX13_lays_165 rfl (lv_at hl 2 rfl) ?_
    refine lv_iload_n hx hb dX13_lays_166 rfl (lv_at hl 4 rfl) ?_
    refine lv_iload_n hx hb dX13_lays_167 rfl (lv_at hl 5 rfl) ?_
    refine vp_callSi (W.runV (As := [.int x2, .int x3]) (rest := [.ref h0]) ⟨hx, hb, hml, hown, hts⟩ (c_X13_priceAt l D T h0 [.int (q 0), .int (q 1), .int (q 2), .int (q 3), .int (q 4), .int (q 5), .int (q 6), .int (q 7), .ref (a 8), .ref (a 9), .ref (a 10), .ref (a 11), .ref (a 12), .ref (a 13), .int n_40, .long l_41, .long l_42, .ref (a 17), .ref (a 18), .ref (a 19), .ref (a 20), .ref (a 21), .ref (a 22), .ref (a 23), .int (q 24), .ref (a 25), .int (q 26), .ref (a 27), .int (q 28), .int (q 29), .int (q 30), .int (q 31), .int (q 32), .int (q 33), .ref (a 34), .ref (a 35), .ref (a 36), .ref (a 37), .ref (a 38), .ref (a 39), .ref (a 40), .int (q 41), .ref (a 42), .int (q 43), .int (q 44)] x2 x3 (q 0) (q 1) (q 2) rfl rfl rfl) (cwV 2 hts gX13_lays_X13_priceAt rfl rfl rfl hv_X13_priceAt ⟨Nat.le_of_ble_eq_true rfl, Nat.le_of_ble_eq_true rfl⟩) (pR_V (q := (RX13, TX13, 45)) (ci := 10) (q0 := 0) hP hE rfl rfl [0] rfl) rfl rfl hl.1 rfl (lv_room (Nat.le_of_ble_eq_true rfl)) dX13_lays_168 ⟨Nat.le_of_ble_eq_true rfl, Nat.le_of_ble_eq_true rfl⟩) (fun r_43 hr_43 => ?_)
    refine lv_i2l hx hb dX13_lays_171 rfl ?_
    refine lv_lconst (v := 1) hx hb dX13_lays_172 (by decide +kernel) ?_
    refine lv_aload_n hx hb dX13_lays_173 rfl (lv_at hl 2 rfl) ?_
    refine va_get (D := D) (ci := 10) (v := .long l_41) (C := RX13) (T := TX13) (N := 45) hx hb hts in_X13_lays_X13 hown hE.1 hP 0 rfl rfl 15 (by decide +kernel) (hts (.fieldLink RX13 145 "ClauseBookModel" "above" "J") (List.mem_of_getElem? (i := 5) rfl)) (fun _ h9 => h9) rfl dX13_lays_174 ?_
    refine lv_aload_n hx hb dX13_lays_177 rfl (lv_at hl 2 rfl) ?_
    refine va_get (D := D) (ci := 10) (v := .long l_42) (C := RX13) (T := TX13) (N := 45) hx hb hts in_X13_lays_X13 hown hE.1 hP 0 rfl rfl 16 (by decide +kernel) (hts (.fieldLink RX13 149 "ClauseBookModel" "below" "J") (List.mem_of_getElem? (i := 6) rfl)) (fun _ h9 => h9) rfl dX13_lays_178 ?_
    have hFc := va_free (wc := [(h0, .inr (10, (Value.int (q 0) :: Value.int (q 1) :: Value.int (q 2) :: Value.int (q 3) :: Value.int (q 4) :: Value.int (q 5) :: Value.int (q 6) :: Value.int (q 7) :: Value.ref (a 8) :: Value.ref (a 9) :: Value.ref (a 10) :: Value.ref (a 11) :: Value.ref (a 12) :: Value.ref (a 13) :: Value.int n_40 :: Value.long l_41 :: Value.long l_42 :: Value.ref (a 17) :: Value.ref (a 18) :: Value.ref (a 19) :: Value.ref (a 20) :: Value.ref (a 21) :: Value.ref (a 22) :: Value.ref (a 23) :: Value.int (q 24) :: Value.ref (a 25) :: Value.int (q 26) :: Value.ref (a 27) :: Value.int (q 28) :: Value.int (q 29) :: Value.int (q 30) :: Value.int (q 31) :: Value.int (q 32) :: Value.int (q 33) :: Value.ref (a 34) :: Value.ref (a 35) :: Value.ref (a 36) :: Value.ref (a 37) :: Value.ref (a 38) :: Value.ref (a 39) :: Value.ref (a 40) :: Value.int (q 41) :: Value.ref (a 42) :: Value.int (q 43) :: Value.int (q 44) :: [])))]) hD hS hA [0] rfl
    refine va_callv (va_runV (As := [.long (r_43.toInt64), .long 1, .long l_41, .long l_42]) (rest := []) ⟨hx, hb, hml, hown, hts⟩ (c_X13_multiplies l D T _ h0 (fun k => cond (Nat.beq k 14) n_40 (q k)) l_41 l_42 a (r_43.toInt64) 1 l_41 l_42 (show isB n_40 from hB14_r_38) (show 1 ≤ (1 : Int64).toInt from (by decide +kernel)) (show 1 ≤ l_42.toInt from (by omega)) (show 1 ≤ l_42.toInt from (by omega))) (cwV 4 hts gX13_lays_X13_multiplies rfl rfl rfl hv_X13_multiplies ⟨Nat.le_of_ble_eq_true rfl, Nat.le_of_ble_eq_true rfl⟩) (pW_V (q := (RX13, TX13, 45)) (ci := 10) (q0 := 0) hP hE hD rfl rfl [0] (by decide +kernel) rfl rfl) rfl rfl hl.1 rfl (lv_room (Nat.le_of_ble_eq_true rfl)) dX13_lays_181 ⟨Nat.le_of_ble_eq_true rfl, Nat.le_of_ble_eq_true rfl⟩) hS (fun q _ h => hFc q h) hFc (fun u_45 t H1 locs ht hvm hr_44 hB hz1 hk1 hS => ?_)
    obtain ⟨n_46, l_47, l_48⟩ := u_45
    obtain ⟨hi0_r_44, hi1_r_44, hi2_r_44, hi3_r_44⟩ := hr_44
    have hB14_r_44 : isB n_46 := hi0_r_44
    have hj1_r_44 : 1 ≤ l_48.toInt := hi1_r_44
    have hj2_r_44 : (n_46 : Int32).toInt = 0 ↔ ((n_40 : Int32).toInt = 0 ∧ fitM (r_43.toInt64) l_41 ∧ fitM (1 : Int64) l_42) := hi2_r_44
    have hj3_r_44 : (n_46 : Int32).toInt = 0 → ((l_47, l_48) : Int64 × Int64) = redW ((r_43.toInt64) * l_41) ((1 : Int64) * l_42) := hi3_r_44
    obtain ⟨hP1, hD1⟩ := hB
    rw [ht] at hP1
    obtain ⟨hP, hD⟩ := va_repl [(h0, .inr (10, (Value.int (q 0) :: Value.int (q 1) :: Value.int (q 2) :: Value.int (q 3) :: Value.int (q 4) :: Value.int (q 5) :: Value.int (q 6) :: Value.int (q 7) :: Value.ref (a 8) :: Value.ref (a 9) :: Value.ref (a 10) :: Value.ref (a 11) :: Value.ref (a 12) :: Value.ref (a 13) :: Value.int n_46 :: Value.long l_47 :: Value.long l_48 :: Value.ref (a 17) :: Value.ref (a 18) :: Value.ref (a 19) :: Value.ref (a 20) :: Value.ref (a 21) :: Value.ref (a 22) :: Value.ref (a 23) :: Value.int (q 24) :: Value.ref (a 25) :: Value.int (q 26) :: Value.ref (a 27) :: Value.int (q 28) :: Value.int (q 29) :: Value.int (q 30) :: Value.int (q 31) :: Value.int (q 32) :: Value.int (q 33) :: Value.ref (a 34) :: Value.ref (a 35) :: Value.ref (a 36) :: Value.ref (a 37) :: Value.ref (a 38) :: Value.ref (a 39) :: Value.ref (a 40) :: Value.int (q 41) :: Value.ref (a 42) :: Value.int (q 43) :: Value.int (q 44) :: []))), ((a 8), .inl (T 0, 24, .inl f8)), ((a 9), .inl (T 0, 24, .inl f9)), ((a 10), .inl (T 0, 24, .inl f10)), ((a 11), .inl (T 0, 24, .inl f11)), ((a 17), .inl (T 0, 24, .inl f17)), ((a 20), .inl (T 1, 672, .inr (.inl f20))), ((a 21), .inl (T 1, 672, .inr (.inl f21))), ((a 22), .inl (T 4, 672, .inl f22))] hP hD [0] [0] rfl (by decide +kernel) rfl rfl rfl hk1 hP1
    clear hP1 hD1 hFc
    generalize H1 = H at hP hS ⊢
    exact W.vret hx hb hr (fun t ht hW => ⟨⟨(n_46, l_47, l_48), rfl, ⟨(show isB n_46 from hB14_r_44), (show 1 ≤ l_48.toInt from (by first | omega | (subst_vars; omega))), (show mpW n_46 l_47 l_48 = stepW (lqW (q 0) (q 1) (q 2) (q 3) (q 4) (q 5) (q 6)) f8 f9 f10 f11 f17 (tabW f20 f21 f22) x1 x2 x3 from (by
                                                            have k2 := ref_mul (tk_mp hM0 hj2_r_38 hj3_r_38 hj4_r_38) hj1_r_38 hj2_r_44 hj3_r_44
                                                            rw [ez_1, hr_43] at k2
                                                            exact lc_4 (by omega) (by rw [← ez_3]; decide) k2))⟩, by rw [ht]; exact hP.sub [0, 1, 2, 3, 4, 5, 6, 7, 8] rfl, hD.sub [0, 1, 2, 3, 4, 5, 6, 7, 8] (by decide +kernel) rfl⟩, hS.F ht⟩) hS.2.2 dX13_lays_184
  by_cases k_49 : z_3 = 5
  · obtain rfl := k_49
    refine lv_tableIn (off := 163) (tgt := 185) hx hb dX13_lays_22 (by decide +kernel) (by decide +kernel) (by decide +kernel) (by decide +kernel) ?_
    have hc9 := hcz_3 (by decide +kernel)
    have hd9 := hdz_3 (by decide +kernel)
    refine lv_aload_n hx hb dX13_lays_185 rfl (lv_at hl 2 rfl) ?_
    refine lv_iload hx hb dX13_lays_186 (lv_at hl 1 rfl) ?_
    refine lv_iload_n hx hb dX13_lays_188 rfl (lv_at hl 4 rfl) ?_
    refine lv_iload_n hx hb dX13_lays_189 rfl (lv_at hl 5 rfl) ?_
    have hFc := va_free (wc := [(h0, .inr (10, (Value.int (q 0) :: Value.int (q 1) :: Value.int (q 2) :: Value.int (q 3) :: Value.int (q 4) :: Value.int (q 5) :: Value.int (q 6) :: Value.int (q 7) :: Value.ref (a 8) :: Value.ref (a 9) :: Value.ref (a 10) :: Value.ref (a 11) :: Value.ref (a 12) :: Value.ref (a 13) :: Value.int (q 14) :: Value.long v :: Value.long w :: Value.ref (a 17) :: Value.ref (a 18) :: Value.ref (a 19) :: Value.ref (a 20) :: Value.ref (a 21) :: Value.ref (a 22) :: Value.ref (a 23) :: Value.int (q 24) :: Value.ref (a 25) :: Value.int (q 26) :: Value.ref (a 27) :: Value.int (q 28) :: Value.int (q 29) :: Value.int (q 30) :: Value.int (q 31) :: Value.int (q 32) :: Value.int (q 33) :: Value.ref (a 34) :: Value.ref (a 35) :: Value.ref (a 36) :: Value.ref (a 37) :: Value.ref (a 38) :: Value.ref (a 39) :: Value.ref (a 40) :: Value.int (q 41) :: Value.ref (a 42) :: Value.int (q 43) :: Value.int (q 44) :: []))), ((a 20), .inl (T 1, 672, .inr (.inl f20))), ((a 21), .inl (T 1, 672, .inr (.inl f21))), ((a 22), .inl (T 4, 672, .inl f22))]) hD hS hA [0, 6, 7, 8] rfl
    refine va_callv (va_runV (As := [.int z_1, .int x2, .int x3]) (rest := []) ⟨hx, hb, hml, hown, hts⟩ (c_X13_takes l D T _ h0 q v w a f20 f21 f22 z_1 x2 x3 (show isB (q 14) from hB) (show ∀ j : Nat, isB (f22 j) from hZ) (show 0 ≤ z_1.toInt ∧ z_1.toInt < 24 from (by omega)) (show 0 ≤ x2.toInt ∧ x2.toInt ≤ 6 from (by omega)) (show 0 ≤ x3.toInt ∧ x3.toInt ≤ x2.toInt from (by omega)) (show ∀ j : Nat, (j : Int) = 28 * z_1.toInt + tri x2.toInt + x3.toInt → 1 ≤ (f21 j).toInt from (fun j hj => hWB.1 j (by omega)))) (cwV 3 hts gX13_lays_X13_takes rfl rfl rfl hv_X13_takes ⟨Nat.le_of_ble_eq_true rfl, Nat.le_of_ble_eq_true rfl⟩) (pW_V (q := (RX13, TX13, 45)) (ci := 10) (q0 := 0) hP hE hD rfl rfl [0, 6, 7, 8] (by decide +kernel) rfl rfl) rfl rfl hl.1 rfl (lv_room (Nat.le_of_ble_eq_true rfl)) dX13_lays_190 ⟨Nat.le_of_ble_eq_true rfl, Nat.le_of_ble_eq_true rfl⟩) hS (fun q _ h => hFc q h) hFc (fun u_51 t H1 locs ht hvm hr_50 hB hz1 hk1 hS => ?_)
    obtain ⟨n_52, l_53, l_54⟩ := u_51
    obtain ⟨hi0_r_50, hi1_r_50, hi2_r_50, hi3_r_50, hi4_r_50⟩ := hr_50
    have hB14_r_50 : isB n_52 := hi0_r_50
    have hj1_r_50 : 1 ≤ l_54.toInt := hi1_r_50
    have hj2_r_50 : (n_52 : Int32).toInt = 0 ↔ (((q 14) : Int32).toInt = 0 ∧ (f22 (slN z_1 x2 x3)).toInt = 0) := hi2_r_50
    have hj3_r_50 : l_53 = f20 (slN z_1 x2 x3) := hi3_r_50
    have hj4_r_50 : l_54 = f21 (slN z_1 x2 x3) := hi4_r_50
    obtain ⟨hP1, hD1⟩ := hB
    rw [ht] at hP1
    obtain ⟨hP, hD⟩ := va_repl [(h0, .inr (10, (Value.int (q 0) :: Value.int (q 1) :: Value.int (q 2) :: Value.int (q 3) :: Value.int (q 4) :: Value.int (q 5) :: Value.int (q 6) :: Value.int (q 7) :: Value.ref (a 8) :: Value.ref (a 9) :: Value.ref (a 10) :: Value.ref (a 11) :: Value.ref (a 12) :: Value.ref (a 13) :: Value.int n_52 :: Value.long l_53 :: Value.long l_54 :: Value.ref (a 17) :: Value.ref (a 18) :: Value.ref (a 19) :: Value.ref (a 20) :: Value.ref (a 21) :: Value.ref (a 22) :: Value.ref (a 23) :: Value.int (q 24) :: Value.ref (a 25) :: Value.int (q 26) :: Value.ref (a 27) :: Value.int (q 28) :: Value.int (q 29) :: Value.int (q 30) :: Value.int (q 31) :: Value.int (q 32) :: Value.int (q 33) :: Value.ref (a 34) :: Value.ref (a 35) :: Value.ref (a 36) :: Value.ref (a 37) :: Value.ref (a 38) :: Value.ref (a 39) :: Value.ref (a 40) :: Value.int (q 41) :: Value.ref (a 42) :: Value.int (q 43) :: Value.int (q 44) :: []))), ((a 8), .inl (T 0, 24, .inl f8)), ((a 9), .inl (T 0, 24, .inl f9)), ((a 10), .inl (T 0, 24, .inl f10)), ((a 11), .inl (T 0, 24, .inl f11)), ((a 17), .inl (T 0, 24, .inl f17)), ((a 20), .inl (T 1, 672, .inr (.inl f20))), ((a 21), .inl (T 1, 672, .inr (.inl f21))), ((a 22), .inl (T 4, 672, .inl f22))] hP hD [0, 6, 7, 8] [0, 6, 7, 8] rfl (by decide +kernel) rfl rfl rfl hk1 hP1
    clear hP1 hD1 hFc
    generalize H1 = H at hP hS ⊢
    refine lv_aload_n hx hb dX13_lays_193 rfl (lv_at hl 2 rfl) ?_
    refine va_get (D := D) (ci := 10) (v := .long l_53) (C := RX13) (T := TX13) (N := 45) hx hb hts in_X13_lays_X13 hown hE.1 hP 0 rfl rfl 15 (by decide +kernel) (hts (.fieldLink RX13 145 "ClauseBookModel" "above" "J") (List.mem_of_getElem? (i := 5) rfl)) (fun _ h9 => h9) rfl dX13_lays_194 ?_
    refine lv_lstore (lv' := [(6, .long l_53), (5, .int z_2), (4, .int z_1), (0, .ref h0), (1, .int x1), (2, .int x2), (3, .int x3)]) hx hb dX13_lays_197 hl (by decide +kernel) rfl (fun ls hl => ?_)
    refine lv_aload_n hx hb dX13_lays_199 rfl (lv_at hl 3 rfl) ?_
    refine va_get (D := D) (ci := 10) (v := .long l_54) (C := RX13) (T := TX13) (N := 45) hx hb hts in_X13_lays_X13 hown hE.1 hP 0 rfl rfl 16 (by decide +kernel) (hts (.fieldLink RX13 149 "ClauseBookModel" "below" "J") (List.mem_of_getElem? (i := 6) rfl)) (fun _ h9 => h9) rfl dX13_lays_200 ?_
    refine lv_lstore (lv' := [(8, .long l_54), (6, .long l_53), (5, .int z_2), (4, .int z_1), (0, .ref h0), (1, .int x1), (2, .int x2), (3, .int x3)]) hx hb dX13_lays_203 hl (by decide +kernel) rfl (fun ls hl => ?_)
    refine lv_aload_n hx hb dX13_lays_205 rfl (lv_at hl 4 rfl) ?_
    refine lv_iload hx hb dX13_lays_206 (lv_at hl 2 rfl) ?_
    refine lv_iload_n hx hb dX13_lays_208 rfl (lv_at hl 6 rfl) ?_
    refine lv_iload_n hx hb dX13_lays_209 rfl (lv_at hl 7 rfl) ?_
    have hFc := va_free (wc := [(h0, .inr (10, (Value.int (q 0) :: Value.int (q 1) :: Value.int (q 2) :: Value.int (q 3) :: Value.int (q 4) :: Value.int (q 5) :: Value.int (q 6) :: Value.int (q 7) :: Value.ref (a 8) :: Value.ref (a 9) :: Value.ref (a 10) :: Value.ref (a 11) :: Value.ref (a 12) :: Value.ref (a 13) :: Value.int n_52 :: Value.long l_53 :: Value.long l_54 :: Value.ref (a 17) :: Value.ref (a 18) :: Value.ref (a 19) :: Value.ref (a 20) :: Value.ref (a 21) :: Value.ref (a 22) :: Value.ref (a 23) :: Value.int (q 24) :: Value.ref (a 25) :: Value.int (q 26) :: Value.ref (a 27) :: Value.int (q 28) :: Value.int (q 29) :: Value.int (q 30) :: Value.int (q 31) :: Value.int (q 32) :: Value.int (q 33) :: Value.ref (a 34) :: Value.ref (a 35) :: Value.ref (a 36) :: Value.ref (a 37) :: Value.ref (a 38) :: Value.ref (a 39) :: Value.ref (a 40) :: Value.int (q 41) :: Value.ref (a 42) :: Value.int (q 43) :: Value.int (q 44) :: []))), ((a 20), .inl (T 1, 672, .inr (.inl f20))), ((a 21), .inl (T 1, 672, .inr (.inl f21))), ((a 22), .inl (T 4, 672, .inl f22))]) hD hS hA [0, 6, 7, 8] rfl
    refine va_callv (va_runV (As := [.int z_2, .int x2, .int x3]) (rest := []) ⟨hx, hb, hml, hown, hts⟩ (c_X13_takes l D T _ h0 (fun k => cond (Nat.beq k 14) n_52 (q k)) l_53 l_54 a f20 f21 f22 z_2 x2 x3 (show isB n_52 from hB14_r_50) (show ∀ j : Nat, isB (f22 j) from hZ) (show 0 ≤ z_2.toInt ∧ z_2.toInt < 24 from (by omega)) (show 0 ≤ x2.toInt ∧ x2.toInt ≤ 6 from (by omega)) (show 0 ≤ x3.toInt ∧ x3.toInt ≤ x2.toInt from (by omega)) (show ∀ j : Nat, (j : Int) = 28 * z_2.toInt + tri x2.toInt + x3.toInt → 1 ≤ (f21 j).toInt from (fun j hj => hWB.1 j (by omega)))) (cwV 3 hts gX13_lays_X13_takes rfl rfl rfl hv_X13_takes ⟨Nat.le_of_ble_eq_true rfl, Nat.le_of_ble_eq_true rfl⟩) (pW_V (q := (RX13, TX13, 45)) (ci := 10) (q0 := 0) hP hE hD rfl rfl [0, 6, 7, 8] (by decide +kernel) rfl rfl) rfl rfl hl.1 rfl (lv_room (Nat.le_of_ble_eq_true rfl)) dX13_lays_210 ⟨Nat.le_of_ble_eq_true rfl, Nat.le_of_ble_eq_true rfl⟩) hS (fun q _ h => hFc q h) hFc (fun u_56 t H1 locs ht hvm hr_55 hB hz1 hk1 hS => ?_)
    obtain ⟨n_57, l_58, l_59⟩ := u_56
    obtain ⟨hi0_r_55, hi1_r_55, hi2_r_55, hi3_r_55, hi4_r_55⟩ := hr_55
    have hB14_r_55 : isB n_57 := hi0_r_55
    have hj1_r_55 : 1 ≤ l_59.toInt := hi1_r_55
    have hj2_r_55 : (n_57 : Int32).toInt = 0 ↔ ((n_52 : Int32).toInt = 0 ∧ (f22 (slN z_2 x2 x3)).toInt = 0) := hi2_r_55
    have hj3_r_55 : l_58 = f20 (slN z_2 x2 x3) := hi3_r_55
    have hj4_r_55 : l_59 = f21 (slN z_2 x2 x3) := hi4_r_55
    obtain ⟨hP1, hD1⟩ := hB
    rw [ht] at hP1
    obtain ⟨hP, hD⟩ := va_repl [(h0, .inr (10, (Value.int (q 0) :: Value.int (q 1) :: Value.int (q 2) :: Value.int (q 3) :: Value.int (q 4) :: Value.int (q 5) :: Value.int (q 6) :: Value.int (q 7) :: Value.ref (a 8) :: Value.ref (a 9) :: Value.ref (a 10) :: Value.ref (a 11) :: Value.ref (a 12) :: Value.ref (a 13) :: Value.int n_57 :: Value.long l_58 :: Value.long l_59 :: Value.ref (a 17) :: Value.ref (a 18) :: Value.ref (a 19) :: Value.ref (a 20) :: Value.ref (a 21) :: Value.ref (a 22) :: Value.ref (a 23) :: Value.int (q 24) :: Value.ref (a 25) :: Value.int (q 26) :: Value.ref (a 27) :: Value.int (q 28) :: Value.int (q 29) :: Value.int (q 30) :: Value.int (q 31) :: Value.int (q 32) :: Value.int (q 33) :: Value.ref (a 34) :: Value.ref (a 35) :: Value.ref (a 36) :: Value.ref (a 37) :: Value.ref (a 38) :: Value.ref (a 39) :: Value.ref (a 40) :: Value.int (q 41) :: Value.ref (a 42) :: Value.int (q 43) :: Value.int (q 44) :: []))), ((a 8), .inl (T 0, 24, .inl f8)), ((a 9), .inl (T 0, 24, .inl f9)), ((a 10), .inl (T 0, 24, .inl f10)), ((a 11), .inl (T 0, 24, .inl f11)), ((a 17), .inl (T 0, 24, .inl f17)), ((a 20), .inl (T 1, 672, .inr (.inl f20))), ((a 21), .inl (T 1, 672, .inr (.inl f21))), ((a 22), .inl (T 4, 672, .inl f22))] hP hD [0, 6, 7, 8] [0, 6, 7, 8] rfl (by decide +kernel) rfl rfl rfl hk1 hP1
    clear hP1 hD1 hFc
    generalize H1 = H at hP hS ⊢
    refine lv_aload_n hx hb dX13_lays_213 rfl (lv_at hl 4 rfl) ?_
    refine lv_lload hx hb dX13_lays_214 (lv_at hl 1 rfl) ?_
    refine lv_lload hx hb dX13_lays_216 (lv_at hl 0 rfl) ?_
    refine lv_aload_n hx hb dX13_lays_218 rfl (lv_at hl 4 rfl) ?_
    refine va_get (D := D) (ci := 10) (v := .long l_58) (C := RX13) (T := TX13) (N := 45) hx hb hts in_X13_lays_X13 hown hE.1 hP 0 rfl rfl 15 (by decide +kernel) (hts (.fieldLink RX13 145 "ClauseBookModel" "above" "J") (List.mem_of_getElem? (i := 5) rfl)) (fun _ h9 => h9) rfl dX13_lays_219 ?_
    refine lv_aload_n hx hb dX13_lays_222 rfl (lv_at hl 4 rfl) ?_
    refine va_get (D := D) (ci := 10) (v := .long l_59) (C := RX13) (T := TX13) (N := 45) hx hb hts in_X13_lays_X13 hown hE.1 hP 0 rfl rfl 16 (by decide +kernel) (hts (.fieldLink RX13 149 "ClauseBookModel" "below" "J") (List.mem_of_getElem? (i := 6) rfl)) (fun _ h9 => h9) rfl dX13_lays_223 ?_
    have hFc := va_free (wc := [(h0, .inr (10, (Value.int (q 0) :: Value.int (q 1) :: Value.int (q 2) :: Value.int (q 3) :: Value.int (q 4) :: Value.int (q 5) :: Value.int (q 6) :: Value.int (q 7) :: Value.ref (a 8) :: Value.ref (a 9) :: Value.ref (a 10) :: Value.ref (a 11) :: Value.ref (a 12) :: Value.ref (a 13) :: Value.int n_57 :: Value.long l_58 :: Value.long l_59 :: Value.ref (a 17) :: Value.ref (a 18) :: Value.ref (a 19) :: Value.ref (a 20) :: Value.ref (a 21) :: Value.ref (a 22) :: Value.ref (a 23) :: Value.int (q 24) :: Value.ref (a 25) :: Value.int (q 26) :: Value.ref (a 27) :: Value.int (q 28) :: Value.int (q 29) :: Value.int (q 30) :: Value.int (q 31) :: Value.int (q 32) :: Value.int (q 33) :: Value.ref (a 34) :: Value.ref (a 35) :: Value.ref (a 36) :: Value.ref (a 37) :: Value.ref (a 38) :: Value.ref (a 39) :: Value.ref (a 40) :: Value.int (q 41) :: Value.ref (a 42) :: Value.int (q 43) :: Value.int (q 44) :: [])))]) hD hS hA [0] rfl
    refine va_callv (va_runV (As := [.long l_53, .long l_54, .long l_58, .long l_59]) (rest := []) ⟨hx, hb, hml, hown, hts⟩ (c_X13_adds l D T _ h0 (fun k => cond (Nat.beq k 14) n_57 (q k)) l_58 l_59 a l_53 l_54 l_58 l_59 (show isB n_57 from hB14_r_55) (show 1 ≤ l_54.toInt from (by omega)) (show 1 ≤ l_59.toInt from (by omega)) (show 1 ≤ l_59.toInt from (by omega))) (cwV 4 hts gX13_lays_X13_adds rfl rfl rfl hv_X13_adds ⟨Nat.le_of_ble_eq_true rfl, Nat.le_of_ble_eq_true rfl⟩) (pW_V (q := (RX13, TX13, 45)) (ci := 10) (q0 := 0) hP hE hD rfl rfl [0] (by decide +kernel) rfl rfl) rfl rfl hl.1 rfl (lv_room (Nat.le_of_ble_eq_true rfl)) dX13_lays_226 ⟨Nat.le_of_ble_eq_true rfl, Nat.le_of_ble_eq_true rfl⟩) hS (fun q _ h => hFc q h) hFc (fun u_61 t H1 locs ht hvm hr_60 hB hz1 hk1 hS => ?_)
    obtain ⟨n_62, l_63, l_64⟩ := u_61
    obtain ⟨hi0_r_60, hi1_r_60, hi2_r_60, hi3_r_60⟩ := hr_60
    have hB14_r_60 : isB n_62 := hi0_r_60
    have hj1_r_60 : 1 ≤ l_64.toInt := hi1_r_60
    have hj2_r_60 : (n_62 : Int32).toInt = 0 ↔ ((n_57 : Int32).toInt = 0 ∧ fitM l_53 l_59 ∧ fitM l_58 l_54 ∧ fitM l_54 l_59 ∧ fitA (l_53 * l_59) (l_58 * l_54)) := hi2_r_60
    have hj3_r_60 : (n_62 : Int32).toInt = 0 → ((l_63, l_64) : Int64 × Int64) = redW ((l_53 * l_59) + (l_58 * l_54)) (l_54 * l_59) := hi3_r_60
    obtain ⟨hP1, hD1⟩ := hB
    rw [ht] at hP1
    obtain ⟨hP, hD⟩ := va_repl [(h0, .inr (10, (Value.int (q 0) :: Value.int (q 1) :: Value.int (q 2) :: Value.int (q 3) :: Value.int (q 4) :: Value.int (q 5) :: Value.int (q 6) :: Value.int (q 7) :: Value.ref (a 8) :: Value.ref (a 9) :: Value.ref (a 10) :: Value.ref (a 11) :: Value.ref (a 12) :: Value.ref (a 13) :: Value.int n_62 :: Value.long l_63 :: Value.long l_64 :: Value.ref (a 17) :: Value.ref (a 18) :: Value.ref (a 19) :: Value.ref (a 20) :: Value.ref (a 21) :: Value.ref (a 22) :: Value.ref (a 23) :: Value.int (q 24) :: Value.ref (a 25) :: Value.int (q 26) :: Value.ref (a 27) :: Value.int (q 28) :: Value.int (q 29) :: Value.int (q 30) :: Value.int (q 31) :: Value.int (q 32) :: Value.int (q 33) :: Value.ref (a 34) :: Value.ref (a 35) :: Value.ref (a 36) :: Value.ref (a 37) :: Value.ref (a 38) :: Value.ref (a 39) :: Value.ref (a 40) :: Value.int (q 41) :: Value.ref (a 42) :: Value.int (q 43) :: Value.int (q 44) :: []))), ((a 8), .inl (T 0, 24, .inl f8)), ((a 9), .inl (T 0, 24, .inl f9)), ((a 10), .inl (T 0, 24, .inl f10)), ((a 11), .inl (T 0, 24, .inl f11)), ((a 17), .inl (T 0, 24, .inl f17)), ((a 20), .inl (T 1, 672, .inr (.inl f20))), ((a 21), .inl (T 1, 672, .inr (.inl f21))), ((a 22), .inl (T 4, 672, .inl f22))] hP hD [0] [0] rfl (by decide +kernel) rfl rfl rfl hk1 hP1
    clear hP1 hD1 hFc
    generalize H1 = H at hP hS ⊢
    exact W.vret hx hb hr (fun t ht hW => ⟨⟨(n_62, l_63, l_64), rfl, ⟨(show isB n_62 from hB14_r_60), (show 1 ≤ l_64.toInt from (by first | omega | (subst_vars; omega))), (show mpW n_62 l_63 l_64 = stepW (lqW (q 0) (q 1) (q 2) (q 3) (q 4) (q 5) (q 6)) f8 f9 f10 f11 f17 (tabW f20 f21 f22) x1 x2 x3 from (by
                                                            have k2 := ref_add (tk_mp hM0 hj2_r_50 hj3_r_50 hj4_r_50) (fun q9 => tk_mp q9 hj2_r_55 hj3_r_55 hj4_r_55) (fun q9 => (hj2_r_55.1 q9).1) hj1_r_50 hj1_r_55 hj2_r_60 hj3_r_60
                                                            rw [ez_1, ez_2] at k2
                                                            exact lc_5 (by omega) (by rw [← ez_3]; decide) k2))⟩, by rw [ht]; exact hP.sub [0, 1, 2, 3, 4, 5, 6, 7, 8] rfl, hD.sub [0, 1, 2, 3, 4, 5, 6, 7, 8] (by decide +kernel) rfl⟩, hS.F ht⟩) hS.2.2 dX13_lays_229
  by_cases k_65 : z_3 = 6
  · obtain rfl := k_65
    refine lv_tableIn (off := 208) (tgt := 230) hx hb dX13_lays_22 (by decide +kernel) (by decide +kernel) (by decide +kernel) (by decide +kernel) ?_
    have hc9 := hcz_3 (by decide +kernel)
    have hd9 := hdz_3 (by decide +kernel)
    refine lv_aload_n hx hb dX13_lays_230 rfl (lv_at hl 2 rfl) ?_
    refine lv_iload_n hx hb dX13_lays_231 rfl (lv_at hl 3 rfl) ?_
    refine lv_iload_n hx hb dX13_lays_232 rfl (lv_at hl 4 rfl) ?_
    refine lv_iload_n hx hb dX13_lays_233 rfl (lv_at hl 5 rfl) ?_
    have hFc := va_free (wc := [(h0, .inr (10, (Value.int (q 0) :: Value.int (q 1) :: Value.int (q 2) :: Value.int (q 3) :: Value.int (q 4) :: Value.int (q 5) :: Value.int (q 6) :: Value.int (q 7) :: Value.ref (a 8) :: Value.ref (a 9) :: Value.ref (a 10) :: Value.ref (a 11) :: Value.ref (a 12) :: Value.ref (a 13) :: Value.int (q 14) :: Value.long v :: Value.long w :: Value.ref (a 17) :: Value.ref (a 18) :: Value.ref (a 19) :: Value.ref (a 20) :: Value.ref (a 21) :: Value.ref (a 22) :: Value.ref (a 23) :: Value.int (q 24) :: Value.ref (a 25) :: Value.int (q 26) :: Value.ref (a 27) :: Value.int (q 28) :: Value.int (q 29) :: Value.int (q 30) :: Value.int (q 31) :: Value.int (q 32) :: Value.int (q 33) :: Value.ref (a 34) :: Value.ref (a 35) :: Value.ref (a 36) :: Value.ref (a 37) :: Value.ref (a 38) :: Value.ref (a 39) :: Value.ref (a 40) :: Value.int (q 41) :: Value.ref (a 42) :: Value.int (q 43) :: Value.int (q 44) :: []))), ((a 8), .inl (T 0, 24, .inl f8)), ((a 9), .inl (T 0, 24, .inl f9)), ((a 10), .inl (T 0, 24, .inl f10)), ((a 11), .inl (T 0, 24, .inl f11)), ((a 17), .inl (T 0, 24, .inl f17)), ((a 20), .inl (T 1, 672, .inr (.inl f20))), ((a 21), .inl (T 1, 672, .inr (.inl f21))), ((a 22), .inl (T 4, 672, .inl f22))]) hD hS hA [0, 1, 2, 3, 4, 5, 6, 7, 8] rfl
    refine va_callv (va_runV (As := [.int x1, .int x2, .int x3]) (rest := []) ⟨hx, hb, hml, hown, hts⟩ (c_X13_laysChoice l D T _ h0 q v w a f8 f9 f10 f11 f17 f20 f21 f22 x1 x2 x3 (show isB (q 14) from hB) (show ∀ j : Nat, isB (f22 j) from hZ) (show 0 ≤ x1.toInt ∧ x1.toInt < 24 from (by omega)) (show 0 ≤ x2.toInt ∧ x2.toInt ≤ 6 from (by omega)) (show 0 ≤ x3.toInt ∧ x3.toInt ≤ x2.toInt from (by omega)) (show 0 ≤ (f10 (x1.toNatClampNeg)).toInt ∧ (f10 (x1.toNatClampNeg)).toInt < x1.toInt from (by omega)) (show 0 ≤ (f11 (x1.toNatClampNeg)).toInt ∧ (f11 (x1.toNatClampNeg)).toInt < x1.toInt from (by omega)) (show ∀ j : Nat, (j : Int) < 28 * x1.toInt → 1 ≤ (f21 j).toInt from hWB.1) (show (f8 (x1.toNatClampNeg)).toInt = 6 ∨ (f8 (x1.toNatClampNeg)).toInt = 7 from (by rw [← ez_3]; decide)) (show x2.toInt ≤ (f17 (x1.toNatClampNeg)).toInt from (by omega)) (show lowS (tabW f20 f21 f22) x1 x2 x3 from hLw)) (cwV 3 hts gX13_lays_X13_laysChoice rfl rfl rfl hv_X13_laysChoice ⟨Nat.le_of_ble_eq_true rfl, Nat.le_of_ble_eq_true rfl⟩) (pW_V (q := (RX13, TX13, 45)) (ci := 10) (q0 := 0) hP hE hD rfl rfl [0, 1, 2, 3, 4, 5, 6, 7, 8] (by decide +kernel) rfl rfl) rfl rfl hl.1 rfl (lv_room (Nat.le_of_ble_eq_true rfl)) dX13_lays_234 ⟨Nat.le_of_ble_eq_true rfl, Nat.le_of_ble_eq_true rfl⟩) hS (fun q _ h => hFc q h) hFc (fun u_67 t H1 locs ht hvm hr_66 hB hz1 hk1 hS => ?_)
    obtain ⟨n_68, l_69, l_70⟩ := u_67
    obtain ⟨hi0_r_66, hi1_r_66, hi2_r_66⟩ := hr_66
    have hB14_r_66 : isB n_68 := hi0_r_66
    have hj1_r_66 : 1 ≤ l_70.toInt := hi1_r_66
    have hj2_r_66 : ((q 14) : Int32).toInt = 0 → mpW n_68 l_69 l_70 = stepW (lqW (q 0) (q 1) (q 2) (q 3) (q 4) (q 5) (q 6)) f8 f9 f10 f11 f17 (tabW f20 f21 f22) x1 x2 x3 := hi2_r_66
    obtain ⟨hP1, hD1⟩ := hB
    rw [ht] at hP1
    obtain ⟨hP, hD⟩ := va_repl [(h0, .inr (10, (Value.int (q 0) :: Value.int (q 1) :: Value.int (q 2) :: Value.int (q 3) :: Value.int (q 4) :: Value.int (q 5) :: Value.int (q 6) :: Value.int (q 7) :: Value.ref (a 8) :: Value.ref (a 9) :: Value.ref (a 10) :: Value.ref (a 11) :: Value.ref (a 12) :: Value.ref (a 13) :: Value.int n_68 :: Value.long l_69 :: Value.long l_70 :: Value.ref (a 17) :: Value.ref (a 18) :: Value.ref (a 19) :: Value.ref (a 20) :: Value.ref (a 21) :: Value.ref (a 22) :: Value.ref (a 23) :: Value.int (q 24) :: Value.ref (a 25) :: Value.int (q 26) :: Value.ref (a 27) :: Value.int (q 28) :: Value.int (q 29) :: Value.int (q 30) :: Value.int (q 31) :: Value.int (q 32) :: Value.int (q 33) :: Value.ref (a 34) :: Value.ref (a 35) :: Value.ref (a 36) :: Value.ref (a 37) :: Value.ref (a 38) :: Value.ref (a 39) :: Value.ref (a 40) :: Value.int (q 41) :: Value.ref (a 42) :: Value.int (q 43) :: Value.int (q 44) :: []))), ((a 8), .inl (T 0, 24, .inl f8)), ((a 9), .inl (T 0, 24, .inl f9)), ((a 10), .inl (T 0, 24, .inl f10)), ((a 11), .inl (T 0, 24, .inl f11)), ((a 17), .inl (T 0, 24, .inl f17)), ((a 20), .inl (T 1, 672, .inr (.inl f20))), ((a 21), .inl (T 1, 672, .inr (.inl f21))), ((a 22), .inl (T 4, 672, .inl f22))] hP hD [0, 1, 2, 3, 4, 5, 6, 7, 8] [0, 1, 2, 3, 4, 5, 6, 7, 8] rfl (by decide +kernel) rfl rfl rfl hk1 hP1
    clear hP1 hD1 hFc
    generalize H1 = H at hP hS ⊢
    exact W.vret hx hb hr (fun t ht hW => ⟨⟨(n_68, l_69, l_70), rfl, ⟨(show isB n_68 from hB14_r_66), (show 1 ≤ l_70.toInt from (by first | omega | (subst_vars; omega))), (show mpW n_68 l_69 l_70 = stepW (lqW (q 0) (q 1) (q 2) (q 3) (q 4) (q 5) (q 6)) f8 f9 f10 f11 f17 (tabW f20 f21 f22) x1 x2 x3 from (hj2_r_66 hM0))⟩, by rw [ht]; exact hP.sub [0, 1, 2, 3, 4, 5, 6, 7, 8] rfl, hD.sub [0, 1, 2, 3, 4, 5, 6, 7, 8] (by decide +kernel) rfl⟩, hS.F ht⟩) hS.2.2 dX13_lays_237
  by_cases k_71 : z_3 = 7
  · obtain rfl := k_71
    refine lv_tableIn (off := 208) (tgt := 230) hx hb dX13_lays_22 (by decide +kernel) (by decide +kernel) (by decide +kernel) (by decide +kernel) ?_
    have hc9 := hcz_3 (by decide +kernel)
    have hd9 := hdz_3 (by decide +kernel)
    refine lv_aload_n hx hb dX13_lays_230 rfl (lv_at hl 2 rfl) ?_
    refine lv_iload_n hx hb dX13_lays_231 rfl (lv_at hl 3 rfl) ?_
    refine lv_iload_n hx hb dX13_lays_232 rfl (lv_at hl 4 rfl) ?_
    refine lv_iload_n hx hb dX13_lays_233 rfl (lv_at hl 5 rfl) ?_
    have hFc := va_free (wc := [(h0, .inr (10, (Value.int (q 0) :: Value.int (q 1) :: Value.int (q 2) :: Value.int (q 3) :: Value.int (q 4) :: Value.int (q 5) :: Value.int (q 6) :: Value.int (q 7) :: Value.ref (a 8) :: Value.ref (a 9) :: Value.ref (a 10) :: Value.ref (a 11) :: Value.ref (a 12) :: Value.ref (a 13) :: Value.int (q 14) :: Value.long v :: Value.long w :: Value.ref (a 17) :: Value.ref (a 18) :: Value.ref (a 19) :: Value.ref (a 20) :: Value.ref (a 21) :: Value.ref (a 22) :: Value.ref (a 23) :: Value.int (q 24) :: Value.ref (a 25) :: Value.int (q 26) :: Value.ref (a 27) :: Value.int (q 28) :: Value.int (q 29) :: Value.int (q 30) :: Value.int (q 31) :: Value.int (q 32) :: Value.int (q 33) :: Value.ref (a 34) :: Value.ref (a 35) :: Value.ref (a 36) :: Value.ref (a 37) :: Value.ref (a 38) :: Value.ref (a 39) :: Value.ref (a 40) :: Value.int (q 41) :: Value.ref (a 42) :: Value.int (q 43) :: Value.int (q 44) :: []))), ((a 8), .inl (T 0, 24, .inl f8)), ((a 9), .inl (T 0, 24, .inl f9)), ((a 10), .inl (T 0, 24, .inl f10)), ((a 11), .inl (T 0, 24, .inl f11)), ((a 17), .inl (T 0, 24, .inl f17)), ((a 20), .inl (T 1, 672, .inr (.inl f20))), ((a 21), .inl (T 1, 672, .inr (.inl f21))), ((a 22), .inl (T 4, 672, .inl f22))]) hD hS hA [0, 1, 2, 3, 4, 5, 6, 7, 8] rfl
    refine va_callv (va_runV (As := [.int x1, .int x2, .int x3]) (rest := []) ⟨hx, hb, hml, hown, hts⟩ (c_X13_laysChoice l D T _ h0 q v w a f8 f9 f10 f11 f17 f20 f21 f22 x1 x2 x3 (show isB (q 14) from hB) (show ∀ j : Nat, isB (f22 j) from hZ) (show 0 ≤ x1.toInt ∧ x1.toInt < 24 from (by omega)) (show 0 ≤ x2.toInt ∧ x2.toInt ≤ 6 from (by omega)) (show 0 ≤ x3.toInt ∧ x3.toInt ≤ x2.toInt from (by omega)) (show 0 ≤ (f10 (x1.toNatClampNeg)).toInt ∧ (f10 (x1.toNatClampNeg)).toInt < x1.toInt from (by omega)) (show 0 ≤ (f11 (x1.toNatClampNeg)).toInt ∧ (f11 (x1.toNatClampNeg)).toInt < x1.toInt from (by omega)) (show ∀ j : Nat, (j : Int) < 28 * x1.toInt → 1 ≤ (f21 j).toInt from hWB.1) (show (f8 (x1.toNatClampNeg)).toInt = 6 ∨ (f8 (x1.toNatClampNeg)).toInt = 7 from (by rw [← ez_3]; decide)) (show x2.toInt ≤ (f17 (x1.toNatClampNeg)).toInt from (by omega)) (show lowS (tabW f20 f21 f22) x1 x2 x3 from hLw)) (cwV 3 hts gX13_lays_X13_laysChoice rfl rfl rfl hv_X13_laysChoice ⟨Nat.le_of_ble_eq_true rfl, Nat.le_of_ble_eq_true rfl⟩) (pW_V (q := (RX13, TX13, 45)) (ci := 10) (q0 := 0) hP hE hD rfl rfl [0, 1, 2, 3, 4, 5, 6, 7, 8] (by decide +kernel) rfl rfl) rfl rfl hl.1 rfl (lv_room (Nat.le_of_ble_eq_true rfl)) dX13_lays_234 ⟨Nat.le_of_ble_eq_true rfl, Nat.le_of_ble_eq_true rfl⟩) hS (fun q _ h => hFc q h) hFc (fun u_73 t H1 locs ht hvm hr_72 hB hz1 hk1 hS => ?_)
    obtain ⟨n_74, l_75, l_76⟩ := u_73
    obtain ⟨hi0_r_72, hi1_r_72, hi2_r_72⟩ := hr_72
    have hB14_r_72 : isB n_74 := hi0_r_72
    have hj1_r_72 : 1 ≤ l_76.toInt := hi1_r_72
    have hj2_r_72 : ((q 14) : Int32).toInt = 0 → mpW n_74 l_75 l_76 = stepW (lqW (q 0) (q 1) (q 2) (q 3) (q 4) (q 5) (q 6)) f8 f9 f10 f11 f17 (tabW f20 f21 f22) x1 x2 x3 := hi2_r_72
    obtain ⟨hP1, hD1⟩ := hB
    rw [ht] at hP1
    obtain ⟨hP, hD⟩ := va_repl [(h0, .inr (10, (Value.int (q 0) :: Value.int (q 1) :: Value.int (q 2) :: Value.int (q 3) :: Value.int (q 4) :: Value.int (q 5) :: Value.int (q 6) :: Value.int (q 7) :: Value.ref (a 8) :: Value.ref (a 9) :: Value.ref (a 10) :: Value.ref (a 11) :: Value.ref (a 12) :: Value.ref (a 13) :: Value.int n_74 :: Value.long l_75 :: Value.long l_76 :: Value.ref (a 17) :: Value.ref (a 18) :: Value.ref (a 19) :: Value.ref (a 20) :: Value.ref (a 21) :: Value.ref (a 22) :: Value.ref (a 23) :: Value.int (q 24) :: Value.ref (a 25) :: Value.int (q 26) :: Value.ref (a 27) :: Value.int (q 28) :: Value.int (q 29) :: Value.int (q 30) :: Value.int (q 31) :: Value.int (q 32) :: Value.int (q 33) :: Value.ref (a 34) :: Value.ref (a 35) :: Value.ref (a 36) :: Value.ref (a 37) :: Value.ref (a 38) :: Value.ref (a 39) :: Value.ref (a 40) :: Value.int (q 41) :: Value.ref (a 42) :: Value.int (q 43) :: Value.int (q 44) :: []))), ((a 8), .inl (T 0, 24, .inl f8)), ((a 9), .inl (T 0, 24, .inl f9)), ((a 10), .inl (T 0, 24, .inl f10)), ((a 11), .inl (T 0, 24, .inl f11)), ((a 17), .inl (T 0, 24, .inl f17)), ((a 20), .inl (T 1, 672, .inr (.inl f20))), ((a 21), .inl (T 1, 672, .inr (.inl f21))), ((a 22), .inl (T 4, 672, .inl f22))] hP hD [0, 1, 2, 3, 4, 5, 6, 7, 8] [0, 1, 2, 3, 4, 5, 6, 7, 8] rfl (by decide +kernel) rfl rfl rfl hk1 hP1
    clear hP1 hD1 hFc
    generalize H1 = H at hP hS ⊢
    exact W.vret hx hb hr (fun t ht hW => ⟨⟨(n_74, l_75, l_76), rfl, ⟨(show isB n_74 from hB14_r_72), (show 1 ≤ l_76.toInt from (by first | omega | (subst_vars; omega))), (show mpW n_74 l_75 l_76 = stepW (lqW (q 0) (q 1) (q 2) (q 3) (q 4) (q 5) (q 6)) f8 f9 f10 f11 f17 (tabW f20 f21 f22) x1 x2 x3 from (hj2_r_72 hM0))⟩, by rw [ht]; exact hP.sub [0, 1, 2, 3, 4, 5, 6, 7, 8] rfl, hD.sub [0, 1, 2, 3, 4, 5, 6, 7, 8] (by decide +kernel) rfl⟩, hS.F ht⟩) hS.2.2 dX13_lays_237
  by_cases k_77 : z_3 = 8
  · obtain rfl := k_77
    refine lv_tableIn (off := 308) (tgt := 330) hx hb dX13_lays_22 (by decide +kernel) (by decide +kernel) (by decide +kernel) (by decide +kernel) ?_
    have hc9 := hcz_3 (by decide +kernel)
    refine lv_aload_n hx hb dX13_lays_330 rfl (lv_at hl 2 rfl) ?_
    refine lv_iload hx hb dX13_lays_331 (lv_at hl 1 rfl) ?_
    refine lv_iload_n hx hb dX13_lays_333 rfl (lv_at hl 4 rfl) ?_
    refine lv_iload_n hx hb dX13_lays_334 rfl (lv_at hl 5 rfl) ?_
    have hFc := va_free (wc := [(h0, .inr (10, (Value.int (q 0) :: Value.int (q 1) :: Value.int (q 2) :: Value.int (q 3) :: Value.int (q 4) :: Value.int (q 5) :: Value.int (q 6) :: Value.int (q 7) :: Value.ref (a 8) :: Value.ref (a 9) :: Value.ref (a 10) :: Value.ref (a 11) :: Value.ref (a 12) :: Value.ref (a 13) :: Value.int (q 14) :: Value.long v :: Value.long w :: Value.ref (a 17) :: Value.ref (a 18) :: Value.ref (a 19) :: Value.ref (a 20) :: Value.ref (a 21) :: Value.ref (a 22) :: Value.ref (a 23) :: Value.int (q 24) :: Value.ref (a 25) :: Value.int (q 26) :: Value.ref (a 27) :: Value.int (q 28) :: Value.int (q 29) :: Value.int (q 30) :: Value.int (q 31) :: Value.int (q 32) :: Value.int (q 33) :: Value.ref (a 34) :: Value.ref (a 35) :: Value.ref (a 36) :: Value.ref (a 37) :: Value.ref (a 38) :: Value.ref (a 39) :: Value.ref (a 40) :: Value.int (q 41) :: Value.ref (a 42) :: Value.int (q 43) :: Value.int (q 44) :: []))), ((a 20), .inl (T 1, 672, .inr (.inl f20))), ((a 21), .inl (T 1, 672, .inr (.inl f21))), ((a 22), .inl (T 4, 672, .inl f22))]) hD hS hA [0, 6, 7, 8] rfl
    refine va_callv (va_runV (As := [.int z_1, .int x2, .int x3]) (rest := []) ⟨hx, hb, hml, hown, hts⟩ (c_X13_takes l D T _ h0 q v w a f20 f21 f22 z_1 x2 x3 (show isB (q 14) from hB) (show ∀ j : Nat, isB (f22 j) from hZ) (show 0 ≤ z_1.toInt ∧ z_1.toInt < 24 from (by omega)) (show 0 ≤ x2.toInt ∧ x2.toInt ≤ 6 from (by omega)) (show 0 ≤ x3.toInt ∧ x3.toInt ≤ x2.toInt from (by omega)) (show ∀ j : Nat, (j : Int) = 28 * z_1.toInt + tri x2.toInt + x3.toInt → 1 ≤ (f21 j).toInt from (fun j hj => hWB.1 j (by omega)))) (cwV 3 hts gX13_lays_X13_takes rfl rfl rfl hv_X13_takes ⟨Nat.le_of_ble_eq_true rfl, Nat.le_of_ble_eq_true rfl⟩) (pW_V (q := (RX13, TX13, 45)) (ci := 10) (q0 := 0) hP hE hD rfl rfl [0, 6, 7, 8] (by decide +kernel) rfl rfl) rfl rfl hl.1 rfl (lv_room (Nat.le_of_ble_eq_true rfl)) dX13_lays_335 ⟨Nat.le_of_ble_eq_true rfl, Nat.le_of_ble_eq_true rfl⟩) hS (fun q _ h => hFc q h) hFc (fun u_79 t H1 locs ht hvm hr_78 hB hz1 hk1 hS => ?_)
    obtain ⟨n_80, l_81, l_82⟩ := u_79
    obtain ⟨hi0_r_78, hi1_r_78, hi2_r_78, hi3_r_78, hi4_r_78⟩ := hr_78
    have hB14_r_78 : isB n_80 := hi0_r_78
    have hj1_r_78 : 1 ≤ l_82.toInt := hi1_r_78
    have hj2_r_78 : (n_80 : Int32).toInt = 0 ↔ (((q 14) : Int32).toInt = 0 ∧ (f22 (slN z_1 x2 x3)).toInt = 0) := hi2_r_78
    have hj3_r_78 : l_81 = f20 (slN z_1 x2 x3) := hi3_r_78
    have hj4_r_78 : l_82 = f21 (slN z_1 x2 x3) := hi4_r_78
    obtain ⟨hP1, hD1⟩ := hB
    rw [ht] at hP1
    obtain ⟨hP, hD⟩ := va_repl [(h0, .inr (10, (Value.int (q 0) :: Value.int (q 1) :: Value.int (q 2) :: Value.int (q 3) :: Value.int (q 4) :: Value.int (q 5) :: Value.int (q 6) :: Value.int (q 7) :: Value.ref (a 8) :: Value.ref (a 9) :: Value.ref (a 10) :: Value.ref (a 11) :: Value.ref (a 12) :: Value.ref (a 13) :: Value.int n_80 :: Value.long l_81 :: Value.long l_82 :: Value.ref (a 17) :: Value.ref (a 18) :: Value.ref (a 19) :: Value.ref (a 20) :: Value.ref (a 21) :: Value.ref (a 22) :: Value.ref (a 23) :: Value.int (q 24) :: Value.ref (a 25) :: Value.int (q 26) :: Value.ref (a 27) :: Value.int (q 28) :: Value.int (q 29) :: Value.int (q 30) :: Value.int (q 31) :: Value.int (q 32) :: Value.int (q 33) :: Value.ref (a 34) :: Value.ref (a 35) :: Value.ref (a 36) :: Value.ref (a 37) :: Value.ref (a 38) :: Value.ref (a 39) :: Value.ref (a 40) :: Value.int (q 41) :: Value.ref (a 42) :: Value.int (q 43) :: Value.int (q 44) :: []))), ((a 8), .inl (T 0, 24, .inl f8)), ((a 9), .inl (T 0, 24, .inl f9)), ((a 10), .inl (T 0, 24, .inl f10)), ((a 11), .inl (T 0, 24, .inl f11)), ((a 17), .inl (T 0, 24, .inl f17)), ((a 20), .inl (T 1, 672, .inr (.inl f20))), ((a 21), .inl (T 1, 672, .inr (.inl f21))), ((a 22), .inl (T 4, 672, .inl f22))] hP hD [0, 6, 7, 8] [0, 6, 7, 8] rfl (by decide +kernel) rfl rfl rfl hk1 hP1
    clear hP1 hD1 hFc
    generalize H1 = H at hP hS ⊢
    exact W.vret hx hb hr (fun t ht hW => ⟨⟨(n_80, l_81, l_82), rfl, ⟨(show isB n_80 from hB14_r_78), (show 1 ≤ l_82.toInt from (by first | omega | (subst_vars; omega))), (show mpW n_80 l_81 l_82 = stepW (lqW (q 0) (q 1) (q 2) (q 3) (q 4) (q 5) (q 6)) f8 f9 f10 f11 f17 (tabW f20 f21 f22) x1 x2 x3 from (by
                                                            have k1 := tk_mp hM0 hj2_r_78 hj3_r_78 hj4_r_78
                                                            rw [ez_1] at k1
                                                            exact lc_8 (by omega) (by rw [← ez_3]; decide) (by omega) k1))⟩, by rw [ht]; exact hP.sub [0, 1, 2, 3, 4, 5, 6, 7, 8] rfl, hD.sub [0, 1, 2, 3, 4, 5, 6, 7, 8] (by decide +kernel) rfl⟩, hS.F ht⟩) hS.2.2 dX13_lays_338
  by_cases k_83 : z_3 = 9
  · obtain rfl := k_83
    refine lv_tableIn (off := 216) (tgt := 238) hx hb dX13_lays_22 (by decide +kernel) (by decide +kernel) (by decide +kernel) (by decide +kernel) ?_
    have hc9 := hcz_3 (by decide +kernel)
    have hd9 := hdz_3 (by decide +kernel)
    refine lv_aload_n hx hb dX13_lays_238 rfl (lv_at hl 2 rfl) ?_
    refine lv_iload_n hx hb dX13_lays_239 rfl (lv_at hl 4 rfl) ?_
    refine lv_aload_n hx hb dX13_lays_240 rfl (lv_at hl 2 rfl) ?_
    refine va_get (D := D) (ci := 10) (v := .ref (a 17)) (C := RX13) (T := TX13) (N := 45) hx hb hts in_X13_lays_X13 hown hE.1 hP 0 rfl rfl 17 (by decide +kernel) (hts (.fieldLink RX13 47 "ClauseBookModel" "end" "[I") (List.mem_of_getElem? (i := 8) rfl)) (fun _ h9 => h9) rfl dX13_lays_241 ?_
    refine lv_iload hx hb dX13_lays_244 (lv_at hl 1 rfl) ?_
    refine va_iald hx hb hE.1 hP 5 0 rfl rfl (by rw [vp_in_iff]; first | omega | (subst_vars; omega)) dX13_lays_246 ?_
    refine lv_topi (fun z_84 ez_84 => ?_)
    have hzz_84 : z_84.toInt = (f17 ((f10 (x1.toNatClampNeg)).toNatClampNeg)).toInt := by rw [ez_84, ez_1]
    refine lv_icmp_gt (tgt := 255) hx hb dX13_lays_247 (by decide +kernel) (fun c_85 => ?_) (fun c_85 => ?_)
    · rw [fa_lt] at c_85
      refine lv_iload hx hb dX13_lays_255 (lv_at hl 0 rfl) ?_
      refine lv_iload_n hx hb dX13_lays_257 rfl (lv_at hl 4 rfl) ?_
      refine lv_iload_n hx hb dX13_lays_258 rfl (lv_at hl 5 rfl) ?_
      have hFc := va_free (wc := [(h0, .inr (10, (Value.int (q 0) :: Value.int (q 1) :: Value.int (q 2) :: Value.int (q 3) :: Value.int (q 4) :: Value.int (q 5) :: Value.int (q 6) :: Value.int (q 7) :: Value.ref (a 8) :: Value.ref (a 9) :: Value.ref (a 10) :: Value.ref (a 11) :: Value.ref (a 12) :: Value.ref (a 13) :: Value.int (q 14) :: Value.long v :: Value.long w :: Value.ref (a 17) :: Value.ref (a 18) :: Value.ref (a 19) :: Value.ref (a 20) :: Value.ref (a 21) :: Value.ref (a 22) :: Value.ref (a 23) :: Value.int (q 24) :: Value.ref (a 25) :: Value.int (q 26) :: Value.ref (a 27) :: Value.int (q 28) :: Value.int (q 29) :: Value.int (q 30) :: Value.int (q 31) :: Value.int (q 32) :: Value.int (q 33) :: Value.ref (a 34) :: Value.ref (a 35) :: Value.ref (a 36) :: Value.ref (a 37) :: Value.ref (a 38) :: Value.ref (a 39) :: Value.ref (a 40) :: Value.int (q 41) :: Value.ref (a 42) :: Value.int (q 43) :: Value.int (q 44) :: []))), ((a 20), .inl (T 1, 672, .inr (.inl f20))), ((a 21), .inl (T 1, 672, .inr (.inl f21))), ((a 22), .inl (T 4, 672, .inl f22))]) hD hS hA [0, 6, 7, 8] rfl
      refine va_callv (va_runV (As := [.int z_2, .int x2, .int x3]) (rest := []) ⟨hx, hb, hml, hown, hts⟩ (c_X13_takes l D T _ h0 q v w a f20 f21 f22 z_2 x2 x3 (show isB (q 14) from hB) (show ∀ j : Nat, isB (f22 j) from hZ) (show 0 ≤ z_2.toInt ∧ z_2.toInt < 24 from (by omega)) (show 0 ≤ x2.toInt ∧ x2.toInt ≤ 6 from (by omega)) (show 0 ≤ x3.toInt ∧ x3.toInt ≤ x2.toInt from (by omega)) (show ∀ j : Nat, (j : Int) = 28 * z_2.toInt + tri x2.toInt + x3.toInt → 1 ≤ (f21 j).toInt from (fun j hj => hWB.1 j (by omega)))) (cwV 3 hts gX13_lays_X13_takes rfl rfl rfl hv_X13_takes ⟨Nat.le_of_ble_eq_true rfl, Nat.le_of_ble_eq_true rfl⟩) (pW_V (q := (RX13, TX13, 45)) (ci := 10) (q0 := 0) hP hE hD rfl rfl [0, 6, 7, 8] (by decide +kernel) rfl rfl) rfl rfl hl.1 rfl (lv_room (Nat.le_of_ble_eq_true rfl)) dX13_lays_259 ⟨Nat.le_of_ble_eq_true rfl, Nat.le_of_ble_eq_true rfl⟩) hS (fun q _ h => hFc q h) hFc (fun u_87 t H1 locs ht hvm hr_86 hB hz1 hk1 hS => ?_)
      obtain ⟨n_88, l_89, l_90⟩ := u_87
      obtain ⟨hi0_r_86, hi1_r_86, hi2_r_86, hi3_r_86, hi4_r_86⟩ := hr_86
      have hB14_r_86 : isB n_88 := hi0_r_86
      have hj1_r_86 : 1 ≤ l_90.toInt := hi1_r_86
      have hj2_r_86 : (n_88 : Int32).toInt = 0 ↔ (((q 14) : Int32).toInt = 0 ∧ (f22 (slN z_2 x2 x3)).toInt = 0) := hi2_r_86
      have hj3_r_86 : l_89 = f20 (slN z_2 x2 x3) := hi3_r_86
      have hj4_r_86 : l_90 = f21 (slN z_2 x2 x3) := hi4_r_86
      obtain ⟨hP1, hD1⟩ := hB
      rw [ht] at hP1
      obtain ⟨hP, hD⟩ := va_repl [(h0, .inr (10, (Value.int (q 0) :: Value.int (q 1) :: Value.int (q 2) :: Value.int (q 3) :: Value.int (q 4) :: Value.int (q 5) :: Value.int (q 6) :: Value.int (q 7) :: Value.ref (a 8) :: Value.ref (a 9) :: Value.ref (a 10) :: Value.ref (a 11) :: Value.ref (a 12) :: Value.ref (a 13) :: Value.int n_88 :: Value.long l_89 :: Value.long l_90 :: Value.ref (a 17) :: Value.ref (a 18) :: Value.ref (a 19) :: Value.ref (a 20) :: Value.ref (a 21) :: Value.ref (a 22) :: Value.ref (a 23) :: Value.int (q 24) :: Value.ref (a 25) :: Value.int (q 26) :: Value.ref (a 27) :: Value.int (q 28) :: Value.int (q 29) :: Value.int (q 30) :: Value.int (q 31) :: Value.int (q 32) :: Value.int (q 33) :: Value.ref (a 34) :: Value.ref (a 35) :: Value.ref (a 36) :: Value.ref (a 37) :: Value.ref (a 38) :: Value.ref (a 39) :: Value.ref (a 40) :: Value.int (q 41) :: Value.ref (a 42) :: Value.int (q 43) :: Value.int (q 44) :: []))), ((a 8), .inl (T 0, 24, .inl f8)), ((a 9), .inl (T 0, 24, .inl f9)), ((a 10), .inl (T 0, 24, .inl f10)), ((a 11), .inl (T 0, 24, .inl f11)), ((a 17), .inl (T 0, 24, .inl f17)), ((a 20), .inl (T 1, 672, .inr (.inl f20))), ((a 21), .inl (T 1, 672, .inr (.inl f21))), ((a 22), .inl (T 4, 672, .inl f22))] hP hD [0, 6, 7, 8] [0, 6, 7, 8] rfl (by decide +kernel) rfl rfl rfl hk1 hP1
      clear hP1 hD1 hFc
      generalize H1 = H at hP hS ⊢
      exact W.vret hx hb hr (fun t ht hW => ⟨⟨(n_88, l_89, l_90), rfl, ⟨(show isB n_88 from hB14_r_86), (show 1 ≤ l_90.toInt from (by first | omega | (subst_vars; omega))), (show mpW n_88 l_89 l_90 = stepW (lqW (q 0) (q 1) (q 2) (q 3) (q 4) (q 5) (q 6)) f8 f9 f10 f11 f17 (tabW f20 f21 f22) x1 x2 x3 from (by
                                                            have k1 := tk_mp hM0 hj2_r_86 hj3_r_86 hj4_r_86
                                                            rw [ez_2] at k1
                                                            exact lc_d (by omega) (Or.inr (Or.inr (by rw [← ez_3]; decide))) (by omega) (by omega) k1))⟩, by rw [ht]; exact hP.sub [0, 1, 2, 3, 4, 5, 6, 7, 8] rfl, hD.sub [0, 1, 2, 3, 4, 5, 6, 7, 8] (by decide +kernel) rfl⟩, hS.F ht⟩) hS.2.2 dX13_lays_262
    · rw [fa_lt] at c_85
      refine lv_iload hx hb dX13_lays_250 (lv_at hl 1 rfl) ?_
      refine lv_goto (tgt := 257) hx hb dX13_lays_252 (by decide +kernel) ?_
      refine lv_iload_n hx hb dX13_lays_257 rfl (lv_at hl 4 rfl) ?_
      refine lv_iload_n hx hb dX13_lays_258 rfl (lv_at hl 5 rfl) ?_
      have hFc := va_free (wc := [(h0, .inr (10, (Value.int (q 0) :: Value.int (q 1) :: Value.int (q 2) :: Value.int (q 3) :: Value.int (q 4) :: Value.int (q 5) :: Value.int (q 6) :: Value.int (q 7) :: Value.ref (a 8) :: Value.ref (a 9) :: Value.ref (a 10) :: Value.ref (a 11) :: Value.ref (a 12) :: Value.ref (a 13) :: Value.int (q 14) :: Value.long v :: Value.long w :: Value.ref (a 17) :: Value.ref (a 18) :: Value.ref (a 19) :: Value.ref (a 20) :: Value.ref (a 21) :: Value.ref (a 22) :: Value.ref (a 23) :: Value.int (q 24) :: Value.ref (a 25) :: Value.int (q 26) :: Value.ref (a 27) :: Value.int (q 28) :: Value.int (q 29) :: Value.int (q 30) :: Value.int (q 31) :: Value.int (q 32) :: Value.int (q 33) :: Value.ref (a 34) :: Value.ref (a 35) :: Value.ref (a 36) :: Value.ref (a 37) :: Value.ref (a 38) :: Value.ref (a 39) :: Value.ref (a 40) :: Value.int (q 41) :: Value.ref (a 42) :: Value.int (q 43) :: Value.int (q 44) :: []))), ((a 20), .inl (T 1, 672, .inr (.inl f20))), ((a 21), .inl (T 1, 672, .inr (.inl f21))), ((a 22), .inl (T 4, 672, .inl f22))]) hD hS hA [0, 6, 7, 8] rfl
      refine va_callv (va_runV (As := [.int z_1, .int x2, .int x3]) (rest := []) ⟨hx, hb, hml, hown, hts⟩ (c_X13_takes l D T _ h0 q v w a f20 f21 f22 z_1 x2 x3 (show isB (q 14) from hB) (show ∀ j : Nat, isB (f22 j) from hZ) (show 0 ≤ z_1.toInt ∧ z_1.toInt < 24 from (by omega)) (show 0 ≤ x2.toInt ∧ x2.toInt ≤ 6 from (by omega)) (show 0 ≤ x3.toInt ∧ x3.toInt ≤ x2.toInt from (by omega)) (show ∀ j : Nat, (j : Int) = 28 * z_1.toInt + tri x2.toInt + x3.toInt → 1 ≤ (f21 j).toInt from (fun j hj => hWB.1 j (by omega)))) (cwV 3 hts gX13_lays_X13_takes rfl rfl rfl hv_X13_takes ⟨Nat.le_of_ble_eq_true rfl, Nat.le_of_ble_eq_true rfl⟩) (pW_V (q := (RX13, TX13, 45)) (ci := 10) (q0 := 0) hP hE hD rfl rfl [0, 6, 7, 8] (by decide +kernel) rfl rfl) rfl rfl hl.1 rfl (lv_room (Nat.le_of_ble_eq_true rfl)) dX13_lays_259 ⟨Nat.le_of_ble_eq_true rfl, Nat.le_of_ble_eq_true rfl⟩) hS (fun q _ h => hFc q h) hFc (fun u_92 t H1 locs ht hvm hr_91 hB hz1 hk1 hS => ?_)
      obtain ⟨n_93, l_94, l_95⟩ := u_92
      obtain ⟨hi0_r_91, hi1_r_91, hi2_r_91, hi3_r_91, hi4_r_91⟩ := hr_91
      have hB14_r_91 : isB n_93 := hi0_r_91
      have hj1_r_91 : 1 ≤ l_95.toInt := hi1_r_91
      have hj2_r_91 : (n_93 : Int32).toInt = 0 ↔ (((q 14) : Int32).toInt = 0 ∧ (f22 (slN z_1 x2 x3)).toInt = 0) := hi2_r_91
      have hj3_r_91 : l_94 = f20 (slN z_1 x2 x3) := hi3_r_91
      have hj4_r_91 : l_95 = f21 (slN z_1 x2 x3) := hi4_r_91
      obtain ⟨hP1, hD1⟩ := hB
      rw [ht] at hP1
      obtain ⟨hP, hD⟩ := va_repl [(h0, .inr (10, (Value.int (q 0) :: Value.int (q 1) :: Value.int (q 2) :: Value.int (q 3) :: Value.int (q 4) :: Value.int (q 5) :: Value.int (q 6) :: Value.int (q 7) :: Value.ref (a 8) :: Value.ref (a 9) :: Value.ref (a 10) :: Value.ref (a 11) :: Value.ref (a 12) :: Value.ref (a 13) :: Value.int n_93 :: Value.long l_94 :: Value.long l_95 :: Value.ref (a 17) :: Value.ref (a 18) :: Value.ref (a 19) :: Value.ref (a 20) :: Value.ref (a 21) :: Value.ref (a 22) :: Value.ref (a 23) :: Value.int (q 24) :: Value.ref (a 25) :: Value.int (q 26) :: Value.ref (a 27) :: Value.int (q 28) :: Value.int (q 29) :: Value.int (q 30) :: Value.int (q 31) :: Value.int (q 32) :: Value.int (q 33) :: Value.ref (a 34) :: Value.ref (a 35) :: Value.ref (a 36) :: Value.ref (a 37) :: Value.ref (a 38) :: Value.ref (a 39) :: Value.ref (a 40) :: Value.int (q 41) :: Value.ref (a 42) :: Value.int (q 43) :: Value.int (q 44) :: []))), ((a 8), .inl (T 0, 24, .inl f8)), ((a 9), .inl (T 0, 24, .inl f9)), ((a 10), .inl (T 0, 24, .inl f10)), ((a 11), .inl (T 0, 24, .inl f11)), ((a 17), .inl (T 0, 24, .inl f17)), ((a 20), .inl (T 1, 672, .inr (.inl f20))), ((a 21), .inl (T 1, 672, .inr (.inl f21))), ((a 22), .inl (T 4, 672, .inl f22))] hP hD [0, 6, 7, 8] [0, 6, 7, 8] rfl (by decide +kernel) rfl rfl rfl hk1 hP1
      clear hP1 hD1 hFc
      generalize H1 = H at hP hS ⊢
      exact W.vret hx hb hr (fun t ht hW => ⟨⟨(n_93, l_94, l_95), rfl, ⟨(show isB n_93 from hB14_r_91), (show 1 ≤ l_95.toInt from (by first | omega | (subst_vars; omega))), (show mpW n_93 l_94 l_95 = stepW (lqW (q 0) (q 1) (q 2) (q 3) (q 4) (q 5) (q 6)) f8 f9 f10 f11 f17 (tabW f20 f21 f22) x1 x2 x3 from (by
                                                            have k1 := tk_mp hM0 hj2_r_91 hj3_r_91 hj4_r_91
                                                            rw [ez_1] at k1
                                                            exact lc_c (by omega) (Or.inr (Or.inr (by rw [← ez_3]; decide))) (by omega) (Or.inl (by rw [← ez_3]; decide)) (by omega) k1))⟩, by rw [ht]; exact hP.sub [0, 1, 2, 3, 4, 5, 6, 7, 8] rfl, hD.sub [0, 1, 2, 3, 4, 5, 6, 7, 8] (by decide +kernel) rfl⟩, hS.F ht⟩) hS.2.2 dX13_lays_262
  by_cases k_96 : z_3 = 10
  · obtain rfl := k_96
    refine lv_tableIn (off := 241) (tgt := 263) hx hb dX13_lays_22 (by decide +kernel) (by decide +kernel) (by decide +kernel) (by decide +kernel) ?_
    have hc9 := hcz_3 (by decide +kernel)
    have hx9 := hex.2 (by rw [← ez_3]; decide)
    refine lv_iload_n hx hb dX13_lays_263 rfl (lv_at hl 4 rfl) ?_
    refine lv_aload_n hx hb dX13_lays_264 rfl (lv_at hl 2 rfl) ?_
    refine va_get (D := D) (ci := 10) (v := .ref (a 17)) (C := RX13) (T := TX13) (N := 45) hx hb hts in_X13_lays_X13 hown hE.1 hP 0 rfl rfl 17 (by decide +kernel) (hts (.fieldLink RX13 47 "ClauseBookModel" "end" "[I") (List.mem_of_getElem? (i := 8) rfl)) (fun _ h9 => h9) rfl dX13_lays_265 ?_
    refine lv_iload hx hb dX13_lays_268 (lv_at hl 1 rfl) ?_
    refine va_iald hx hb hE.1 hP 5 0 rfl rfl (by rw [vp_in_iff]; first | omega | (subst_vars; omega)) dX13_lays_270 ?_
    refine lv_topi (fun z_97 ez_97 => ?_)
    have hzz_97 : z_97.toInt = (f17 ((f10 (x1.toNatClampNeg)).toNatClampNeg)).toInt := by rw [ez_97, ez_1]
    refine lv_icmp_ne (tgt := 285) hx hb dX13_lays_271 (by decide +kernel) (fun c_98 => ?_) (fun c_98 => ?_)
    · rw [fa_eq] at c_98
      refine lv_aload_n hx hb dX13_lays_285 rfl (lv_at hl 2 rfl) ?_
      refine lv_iload_n hx hb dX13_lays_286 rfl (lv_at hl 3 rfl) ?_
      refine lv_iload_n hx hb dX13_lays_287 rfl (lv_at hl 4 rfl) ?_
      refine lv_iload_n hx hb dX13_lays_288 rfl (lv_at hl 5 rfl) ?_
      have hFc := va_free (wc := [(h0, .inr (10, (Value.int (q 0) :: Value.int (q 1) :: Value.int (q 2) :: Value.int (q 3) :: Value.int (q 4) :: Value.int (q 5) :: Value.int (q 6) :: Value.int (q 7) :: Value.ref (a 8) :: Value.ref (a 9) :: Value.ref (a 10) :: Value.ref (a 11) :: Value.ref (a 12) :: Value.ref (a 13) :: Value.int (q 14) :: Value.long v :: Value.long w :: Value.ref (a 17) :: Value.ref (a 18) :: Value.ref (a 19) :: Value.ref (a 20) :: Value.ref (a 21) :: Value.ref (a 22) :: Value.ref (a 23) :: Value.int (q 24) :: Value.ref (a 25) :: Value.int (q 26) :: Value.ref (a 27) :: Value.int (q 28) :: Value.int (q 29) :: Value.int (q 30) :: Value.int (q 31) :: Value.int (q 32) :: Value.int (q 33) :: Value.ref (a 34) :: Value.ref (a 35) :: Value.ref (a 36) :: Value.ref (a 37) :: Value.ref (a 38) :: Value.ref (a 39) :: Value.ref (a 40) :: Value.int (q 41) :: Value.ref (a 42) :: Value.int (q 43) :: Value.int (q 44) :: []))), ((a 20), .inl (T 1, 672, .inr (.inl f20))), ((a 21), .inl (T 1, 672, .inr (.inl f21))), ((a 22), .inl (T 4, 672, .inl f22))]) hD hS hA [0, 6, 7, 8] rfl
      refine va_callv (va_runV (As := [.int x1, .int x2, .int x3]) (rest := []) ⟨hx, hb, hml, hown, hts⟩ (c_X13_means l D T _ h0 q v w a f20 f21 f22 x1 x2 x3 (show isB (q 14) from hB) (show ∀ j : Nat, isB (f22 j) from hZ) (show (1 ≤ (q 4).toInt ∧ (q 4).toInt ≤ 9) ∧ 1 ≤ (q 6).toInt ∧ (q 6).toInt ≤ 9 from (by omega)) (show 0 ≤ x1.toInt ∧ x1.toInt < 24 from (by omega)) (show 0 ≤ x2.toInt ∧ x2.toInt ≤ 5 from (by omega)) (show 0 ≤ x3.toInt ∧ x3.toInt ≤ x2.toInt from (by omega)) (show ∀ j : Nat, 28 * x1.toInt + tri (x2.toInt + 1) ≤ j → (j : Int) < 28 * x1.toInt + 28 → 1 ≤ (f21 j).toInt from hWB.2)) (cwV 3 hts gX13_lays_X13_means rfl rfl rfl hv_X13_means ⟨Nat.le_of_ble_eq_true rfl, Nat.le_of_ble_eq_true rfl⟩) (pW_V (q := (RX13, TX13, 45)) (ci := 10) (q0 := 0) hP hE hD rfl rfl [0, 6, 7, 8] (by decide +kernel) rfl rfl) rfl rfl hl.1 rfl (lv_room (Nat.le_of_ble_eq_true rfl)) dX13_lays_289 ⟨Nat.le_of_ble_eq_true rfl, Nat.le_of_ble_eq_true rfl⟩) hS (fun q _ h => hFc q h) hFc (fun u_100 t H1 locs ht hvm hr_99 hB hz1 hk1 hS => ?_)
      obtain ⟨n_101, l_102, l_103⟩ := u_100
      obtain ⟨hi0_r_99, hi1_r_99, hi2_r_99, hi3_r_99⟩ := hr_99
      have hB14_r_99 : isB n_101 := hi0_r_99
      have hj1_r_99 : 1 ≤ l_103.toInt := hi1_r_99
      have hj2_r_99 : ((q 14) : Int32).toInt = 0 → mpW n_101 l_102 l_103 = avgW (lqW (q 0) (q 1) (q 2) (q 3) (q 4) (q 5) (q 6)) (tabW f20 f21 f22) x1 x2 x3 := hi2_r_99
      have hj3_r_99 : (n_101 : Int32).toInt = 0 → ((q 14) : Int32).toInt = 0 := hi3_r_99
      obtain ⟨hP1, hD1⟩ := hB
      rw [ht] at hP1
      obtain ⟨hP, hD⟩ := va_repl [(h0, .inr (10, (Value.int (q 0) :: Value.int (q 1) :: Value.int (q 2) :: Value.int (q 3) :: Value.int (q 4) :: Value.int (q 5) :: Value.int (q 6) :: Value.int (q 7) :: Value.ref (a 8) :: Value.ref (a 9) :: Value.ref (a 10) :: Value.ref (a 11) :: Value.ref (a 12) :: Value.ref (a 13) :: Value.int n_101 :: Value.long l_102 :: Value.long l_103 :: Value.ref (a 17) :: Value.ref (a 18) :: Value.ref (a 19) :: Value.ref (a 20) :: Value.ref (a 21) :: Value.ref (a 22) :: Value.ref (a 23) :: Value.int (q 24) :: Value.ref (a 25) :: Value.int (q 26) :: Value.ref (a 27) :: Value.int (q 28) :: Value.int (q 29) :: Value.int (q 30) :: Value.int (q 31) :: Value.int (q 32) :: Value.int (q 33) :: Value.ref (a 34) :: Value.ref (a 35) :: Value.ref (a 36) :: Value.ref (a 37) :: Value.ref (a 38) :: Value.ref (a 39) :: Value.ref (a 40) :: Value.int (q 41) :: Value.ref (a 42) :: Value.int (q 43) :: Value.int (q 44) :: []))), ((a 8), .inl (T 0, 24, .inl f8)), ((a 9), .inl (T 0, 24, .inl f9)), ((a 10), .inl (T 0, 24, .inl f10)), ((a 11), .inl (T 0, 24, .inl f11)), ((a 17), .inl (T 0, 24, .inl f17)), ((a 20), .inl (T 1, 672, .inr (.inl f20))), ((a 21), .inl (T 1, 672, .inr (.inl f21))), ((a 22), .inl (T 4, 672, .inl f22))] hP hD [0, 6, 7, 8] [0, 6, 7, 8] rfl (by decide +kernel) rfl rfl rfl hk1 hP1
      clear hP1 hD1 hFc
      generalize H1 = H at hP hS ⊢
      exact W.vret hx hb hr (fun t ht hW => ⟨⟨(n_101, l_102, l_103), rfl, ⟨(show isB n_101 from hB14_r_99), (show 1 ≤ l_103.toInt from (by first | omega | (subst_vars; omega))), (show mpW n_101 l_102 l_103 = stepW (lqW (q 0) (q 1) (q 2) (q 3) (q 4) (q 5) (q 6)) f8 f9 f10 f11 f17 (tabW f20 f21 f22) x1 x2 x3 from (lc_10m (by omega) (by rw [← ez_3]; decide) (by omega) (hj2_r_99 hM0)))⟩, by rw [ht]; exact hP.sub [0, 1, 2, 3, 4, 5, 6, 7, 8] rfl, hD.sub [0, 1, 2, 3, 4, 5, 6, 7, 8] (by decide +kernel) rfl⟩, hS.F ht⟩) hS.2.2 dX13_lays_292
    · rw [fa_eq] at c_98
      refine lv_aload_n hx hb dX13_lays_274 rfl (lv_at hl 2 rfl) ?_
      refine lv_iload hx hb dX13_lays_275 (lv_at hl 1 rfl) ?_
      refine lv_iload_n hx hb dX13_lays_277 rfl (lv_at hl 4 rfl) ?_
      refine lv_iload_n hx hb dX13_lays_278 rfl (lv_at hl 5 rfl) ?_
      have hFc := va_free (wc := [(h0, .inr (10, (Value.int (q 0) :: Value.int (q 1) :: Value.int (q 2) :: Value.int (q 3) :: Value.int (q 4) :: Value.int (q 5) :: Value.int (q 6) :: Value.int (q 7) :: Value.ref (a 8) :: Value.ref (a 9) :: Value.ref (a 10) :: Value.ref (a 11) :: Value.ref (a 12) :: Value.ref (a 13) :: Value.int (q 14) :: Value.long v :: Value.long w :: Value.ref (a 17) :: Value.ref (a 18) :: Value.ref (a 19) :: Value.ref (a 20) :: Value.ref (a 21) :: Value.ref (a 22) :: Value.ref (a 23) :: Value.int (q 24) :: Value.ref (a 25) :: Value.int (q 26) :: Value.ref (a 27) :: Value.int (q 28) :: Value.int (q 29) :: Value.int (q 30) :: Value.int (q 31) :: Value.int (q 32) :: Value.int (q 33) :: Value.ref (a 34) :: Value.ref (a 35) :: Value.ref (a 36) :: Value.ref (a 37) :: Value.ref (a 38) :: Value.ref (a 39) :: Value.ref (a 40) :: Value.int (q 41) :: Value.ref (a 42) :: Value.int (q 43) :: Value.int (q 44) :: []))), ((a 20), .inl (T 1, 672, .inr (.inl f20))), ((a 21), .inl (T 1, 672, .inr (.inl f21))), ((a 22), .inl (T 4, 672, .inl f22))]) hD hS hA [0, 6, 7, 8] rfl
      refine va_callv (va_runV (As := [.int z_1, .int x2, .int x3]) (rest := []) ⟨hx, hb, hml, hown, hts⟩ (c_X13_takes l D T _ h0 q v w a f20 f21 f22 z_1 x2 x3 (show isB (q 14) from hB) (show ∀ j : Nat, isB (f22 j) from hZ) (show 0 ≤ z_1.toInt ∧ z_1.toInt < 24 from (by omega)) (show 0 ≤ x2.toInt ∧ x2.toInt ≤ 6 from (by omega)) (show 0 ≤ x3.toInt ∧ x3.toInt ≤ x2.toInt from (by omega)) (show ∀ j : Nat, (j : Int) = 28 * z_1.toInt + tri x2.toInt + x3.toInt → 1 ≤ (f21 j).toInt from (fun j hj => hWB.1 j (by omega)))) (cwV 3 hts gX13_lays_X13_takes rfl rfl rfl hv_X13_takes ⟨Nat.le_of_ble_eq_true rfl, Nat.le_of_ble_eq_true rfl⟩) (pW_V (q := (RX13, TX13, 45)) (ci := 10) (q0 := 0) hP hE hD rfl rfl [0, 6, 7, 8] (by decide +kernel) rfl rfl) rfl rfl hl.1 rfl (lv_room (Nat.le_of_ble_eq_true rfl)) dX13_lays_279 ⟨Nat.le_of_ble_eq_true rfl, Nat.le_of_ble_eq_true rfl⟩) hS (fun q _ h => hFc q h) hFc (fun u_105 t H1 locs ht hvm hr_104 hB hz1 hk1 hS => ?_)
      obtain ⟨n_106, l_107, l_108⟩ := u_105
      obtain ⟨hi0_r_104, hi1_r_104, hi2_r_104, hi3_r_104, hi4_r_104⟩ := hr_104
      have hB14_r_104 : isB n_106 := hi0_r_104
      have hj1_r_104 : 1 ≤ l_108.toInt := hi1_r_104
      have hj2_r_104 : (n_106 : Int32).toInt = 0 ↔ (((q 14) : Int32).toInt = 0 ∧ (f22 (slN z_1 x2 x3)).toInt = 0) := hi2_r_104
      have hj3_r_104 : l_107 = f20 (slN z_1 x2 x3) := hi3_r_104
      have hj4_r_104 : l_108 = f21 (slN z_1 x2 x3) := hi4_r_104
      obtain ⟨hP1, hD1⟩ := hB
      rw [ht] at hP1
      obtain ⟨hP, hD⟩ := va_repl [(h0, .inr (10, (Value.int (q 0) :: Value.int (q 1) :: Value.int (q 2) :: Value.int (q 3) :: Value.int (q 4) :: Value.int (q 5) :: Value.int (q 6) :: Value.int (q 7) :: Value.ref (a 8) :: Value.ref (a 9) :: Value.ref (a 10) :: Value.ref (a 11) :: Value.ref (a 12) :: Value.ref (a 13) :: Value.int n_106 :: Value.long l_107 :: Value.long l_108 :: Value.ref (a 17) :: Value.ref (a 18) :: Value.ref (a 19) :: Value.ref (a 20) :: Value.ref (a 21) :: Value.ref (a 22) :: Value.ref (a 23) :: Value.int (q 24) :: Value.ref (a 25) :: Value.int (q 26) :: Value.ref (a 27) :: Value.int (q 28) :: Value.int (q 29) :: Value.int (q 30) :: Value.int (q 31) :: Value.int (q 32) :: Value.int (q 33) :: Value.ref (a 34) :: Value.ref (a 35) :: Value.ref (a 36) :: Value.ref (a 37) :: Value.ref (a 38) :: Value.ref (a 39) :: Value.ref (a 40) :: Value.int (q 41) :: Value.ref (a 42) :: Value.int (q 43) :: Value.int (q 44) :: []))), ((a 8), .inl (T 0, 24, .inl f8)), ((a 9), .inl (T 0, 24, .inl f9)), ((a 10), .inl (T 0, 24, .inl f10)), ((a 11), .inl (T 0, 24, .inl f11)), ((a 17), .inl (T 0, 24, .inl f17)), ((a 20), .inl (T 1, 672, .inr (.inl f20))), ((a 21), .inl (T 1, 672, .inr (.inl f21))), ((a 22), .inl (T 4, 672, .inl f22))] hP hD [0, 6, 7, 8] [0, 6, 7, 8] rfl (by decide +kernel) rfl rfl rfl hk1 hP1
      clear hP1 hD1 hFc
      generalize H1 = H at hP hS ⊢
      refine lv_goto (tgt := 292) hx hb dX13_lays_282 (by decide +kernel) ?_
      exact W.vret hx hb hr (fun t ht hW => ⟨⟨(n_106, l_107, l_108), rfl, ⟨(show isB n_106 from hB14_r_104), (show 1 ≤ l_108.toInt from (by first | omega | (subst_vars; omega))), (show mpW n_106 l_107 l_108 = stepW (lqW (q 0) (q 1) (q 2) (q 3) (q 4) (q 5) (q 6)) f8 f9 f10 f11 f17 (tabW f20 f21 f22) x1 x2 x3 from (by
                                                            have k1 := tk_mp hM0 hj2_r_104 hj3_r_104 hj4_r_104
                                                            rw [ez_1] at k1
                                                            exact lc_10n (by omega) (by rw [← ez_3]; decide) (by omega) k1))⟩, by rw [ht]; exact hP.sub [0, 1, 2, 3, 4, 5, 6, 7, 8] rfl, hD.sub [0, 1, 2, 3, 4, 5, 6, 7, 8] (by decide +kernel) rfl⟩, hS.F ht⟩) hS.2.2 dX13_lays_292
  by_cases k_109 : z_3 = 11
  · obtain rfl := k_109
    refine lv_tableIn (off := 271) (tgt := 293) hx hb dX13_lays_22 (by decide +kernel) (by decide +kernel) (by decide +kernel) (by decide +kernel) ?_
    have hc9 := hcz_3 (by decide +kernel)
    have hx9 := hex.2 (by rw [← ez_3]; decide)
    refine lv_aload_n hx hb dX13_lays_293 rfl (lv_at hl 2 rfl) ?_
    refine lv_iload_n hx hb dX13_lays_294 rfl (lv_at hl 3 rfl) ?_
    refine lv_iload_n hx hb dX13_lays_295 rfl (lv_at hl 4 rfl) ?_
    refine lv_iload_n hx hb dX13_lays_296 rfl (lv_at hl 5 rfl) ?_
    have hFc := va_free (wc := [(h0, .inr (10, (Value.int (q 0) :: Value.int (q 1) :: Value.int (q 2) :: Value.int (q 3) :: Value.int (q 4) :: Value.int (q 5) :: Value.int (q 6) :: Value.int (q 7) :: Value.ref (a 8) :: Value.ref (a 9) :: Value.ref (a 10) :: Value.ref (a 11) :: Value.ref (a 12) :: Value.ref (a 13) :: Value.int (q 14) :: Value.long v :: Value.long w :: Value.ref (a 17) :: Value.ref (a 18) :: Value.ref (a 19) :: Value.ref (a 20) :: Value.ref (a 21) :: Value.ref (a 22) :: Value.ref (a 23) :: Value.int (q 24) :: Value.ref (a 25) :: Value.int (q 26) :: Value.ref (a 27) :: Value.int (q 28) :: Value.int (q 29) :: Value.int (q 30) :: Value.int (q 31) :: Value.int (q 32) :: Value.int (q 33) :: Value.ref (a 34) :: Value.ref (a 35) :: Value.ref (a 36) :: Value.ref (a 37) :: Value.ref (a 38) :: Value.ref (a 39) :: Value.ref (a 40) :: Value.int (q 41) :: Value.ref (a 42) :: Value.int (q 43) :: Value.int (q 44) :: []))), ((a 8), .inl (T 0, 24, .inl f8)), ((a 9), .inl (T 0, 24, .inl f9)), ((a 10), .inl (T 0, 24, .inl f10)), ((a 11), .inl (T 0, 24, .inl f11)), ((a 17), .inl (T 0, 24, .inl f17)), ((a 20), .inl (T 1, 672, .inr (.inl f20))), ((a 21), .inl (T 1, 672, .inr (.inl f21))), ((a 22), .inl (T 4, 672, .inl f22))]) hD hS hA [0, 1, 2, 3, 4, 5, 6, 7, 8] rfl
    refine va_callv (va_runV (As := [.int x1, .int x2, .int x3]) (rest := []) ⟨hx, hb, hml, hown, hts⟩ (c_X13_laysFree l D T _ h0 q v w a f8 f9 f10 f11 f17 f20 f21 f22 x1 x2 x3 (show isB (q 14) from hB) (show ∀ j : Nat, isB (f22 j) from hZ) (show (1 ≤ (q 4).toInt ∧ (q 4).toInt ≤ 9) ∧ 1 ≤ (q 6).toInt ∧ (q 6).toInt ≤ 9 from (by omega)) (show 0 ≤ x1.toInt ∧ x1.toInt < 24 from (by omega)) (show 0 ≤ x2.toInt ∧ x2.toInt ≤ 6 from (by omega)) (show 0 ≤ x3.toInt ∧ x3.toInt ≤ x2.toInt from (by omega)) (show 0 ≤ (f10 (x1.toNatClampNeg)).toInt ∧ (f10 (x1.toNatClampNeg)).toInt < x1.toInt from (by omega)) (show ∀ j : Nat, (j : Int) < 28 * x1.toInt → 1 ≤ (f21 j).toInt from hWB.1) (show ∀ j : Nat, 28 * x1.toInt + tri (x2.toInt + 1) ≤ j → (j : Int) < 28 * x1.toInt + 28 → 1 ≤ (f21 j).toInt from hWB.2) (show x2.toInt ≠ (f17 ((f10 (x1.toNatClampNeg)).toNatClampNeg)).toInt → x2.toInt ≤ 5 from (by omega)) (show (f8 (x1.toNatClampNeg)).toInt = 11 from (by rw [← ez_3]; decide)) (show (f17 (x1.toNatClampNeg)).toInt = (f17 ((f10 (x1.toNatClampNeg)).toNatClampNeg)).toInt from hx9) (show x2.toInt ≤ (f17 (x1.toNatClampNeg)).toInt from (by omega)) (show lowS (tabW f20 f21 f22) x1 x2 x3 from hLw)) (cwV 3 hts gX13_lays_X13_laysFree rfl rfl rfl hv_X13_laysFree ⟨Nat.le_of_ble_eq_true rfl, Nat.le_of_ble_eq_true rfl⟩) (pW_V (q := (RX13, TX13, 45)) (ci := 10) (q0 := 0) hP hE hD rfl rfl [0, 1, 2, 3, 4, 5, 6, 7, 8] (by decide +kernel) rfl rfl) rfl rfl hl.1 rfl (lv_room (Nat.le_of_ble_eq_true rfl)) dX13_lays_297 ⟨Nat.le_of_ble_eq_true rfl, Nat.le_of_ble_eq_true rfl⟩) hS (fun q _ h => hFc q h) hFc (fun u_111 t H1 locs ht hvm hr_110 hB hz1 hk1 hS => ?_)
    obtain ⟨n_112, l_113, l_114⟩ := u_111
    obtain ⟨hi0_r_110, hi1_r_110, hi2_r_110⟩ := hr_110
    have hB14_r_110 : isB n_112 := hi0_r_110
    have hj1_r_110 : 1 ≤ l_114.toInt := hi1_r_110
    have hj2_r_110 : ((q 14) : Int32).toInt = 0 → mpW n_112 l_113 l_114 = stepW (lqW (q 0) (q 1) (q 2) (q 3) (q 4) (q 5) (q 6)) f8 f9 f10 f11 f17 (tabW f20 f21 f22) x1 x2 x3 := hi2_r_110
    obtain ⟨hP1, hD1⟩ := hB
    rw [ht] at hP1
    obtain ⟨hP, hD⟩ := va_repl [(h0, .inr (10, (Value.int (q 0) :: Value.int (q 1) :: Value.int (q 2) :: Value.int (q 3) :: Value.int (q 4) :: Value.int (q 5) :: Value.int (q 6) :: Value.int (q 7) :: Value.ref (a 8) :: Value.ref (a 9) :: Value.ref (a 10) :: Value.ref (a 11) :: Value.ref (a 12) :: Value.ref (a 13) :: Value.int n_112 :: Value.long l_113 :: Value.long l_114 :: Value.ref (a 17) :: Value.ref (a 18) :: Value.ref (a 19) :: Value.ref (a 20) :: Value.ref (a 21) :: Value.ref (a 22) :: Value.ref (a 23) :: Value.int (q 24) :: Value.ref (a 25) :: Value.int (q 26) :: Value.ref (a 27) :: Value.int (q 28) :: Value.int (q 29) :: Value.int (q 30) :: Value.int (q 31) :: Value.int (q 32) :: Value.int (q 33) :: Value.ref (a 34) :: Value.ref (a 35) :: Value.ref (a 36) :: Value.ref (a 37) :: Value.ref (a 38) :: Value.ref (a 39) :: Value.ref (a 40) :: Value.int (q 41) :: Value.ref (a 42) :: Value.int (q 43) :: Value.int (q 44) :: []))), ((a 8), .inl (T 0, 24, .inl f8)), ((a 9), .inl (T 0, 24, .inl f9)), ((a 10), .inl (T 0, 24, .inl f10)), ((a 11), .inl (T 0, 24, .inl f11)), ((a 17), .inl (T 0, 24, .inl f17)), ((a 20), .inl (T 1, 672, .inr (.inl f20))), ((a 21), .inl (T 1, 672, .inr (.inl f21))), ((a 22), .inl (T 4, 672, .inl f22))] hP hD [0, 1, 2, 3, 4, 5, 6, 7, 8] [0, 1, 2, 3, 4, 5, 6, 7, 8] rfl (by decide +kernel) rfl rfl rfl hk1 hP1
    clear hP1 hD1 hFc
    generalize H1 = H at hP hS ⊢
    exact W.vret hx hb hr (fun t ht hW => ⟨⟨(n_112, l_113, l_114), rfl, ⟨(show isB n_112 from hB14_r_110), (show 1 ≤ l_114.toInt from (by first | omega | (subst_vars; omega))), (show mpW n_112 l_113 l_114 = stepW (lqW (q 0) (q 1) (q 2) (q 3) (q 4) (q 5) (q 6)) f8 f9 f10 f11 f17 (tabW f20 f21 f22) x1 x2 x3 from (hj2_r_110 hM0))⟩, by rw [ht]; exact hP.sub [0, 1, 2, 3, 4, 5, 6, 7, 8] rfl, hD.sub [0, 1, 2, 3, 4, 5, 6, 7, 8] (by decide +kernel) rfl⟩, hS.F ht⟩) hS.2.2 dX13_lays_300
  by_cases k_115 : z_3 = 12
  · obtain rfl := k_115
    refine lv_tableIn (off := 279) (tgt := 301) hx hb dX13_lays_22 (by decide +kernel) (by decide +kernel) (by decide +kernel) (by decide +kernel) ?_
    have hc9 := hcz_3 (by decide +kernel)
    have hd9 := hdz_3 (by decide +kernel)
    refine lv_aload_n hx hb dX13_lays_301 rfl (lv_at hl 2 rfl) ?_
    refine lv_aload_n hx hb dX13_lays_302 rfl (lv_at hl 2 rfl) ?_
    refine lv_iload_n hx hb dX13_lays_303 rfl (lv_at hl 4 rfl) ?_
    refine lv_iload_n hx hb dX13_lays_304 rfl (lv_at hl 5 rfl) ?_
    refine vp_callSi (W.runV (As := [.int x2, .int x3]) (rest := [.ref h0]) ⟨hx, hb, hml, hown, hts⟩ (c_X13_priceAt l D T h0 [.int (q 0), .int (q 1), .int (q 2), .int (q 3), .int (q 4), .int (q 5), .int (q 6), .int (q 7), .ref (a 8), .ref (a 9), .ref (a 10), .ref (a 11), .ref (a 12), .ref (a 13), .int (q 14), .long v, .long w, .ref (a 17), .ref (a 18), .ref (a 19), .ref (a 20), .ref (a 21), .ref (a 22), .ref (a 23), .int (q 24), .ref (a 25), .int (q 26), .ref (a 27), .int (q 28), .int (q 29), .int (q 30), .int (q 31), .int (q 32), .int (q 33), .ref (a 34), .ref (a 35), .ref (a 36), .ref (a 37), .ref (a 38), .ref (a 39), .ref (a 40), .int (q 41), .ref (a 42), .int (q 43), .int (q 44)] x2 x3 (q 0) (q 1) (q 2) rfl rfl rfl) (cwV 2 hts gX13_lays_X13_priceAt rfl rfl rfl hv_X13_priceAt ⟨Nat.le_of_ble_eq_true rfl, Nat.le_of_ble_eq_true rfl⟩) (pR_V (q := (RX13, TX13, 45)) (ci := 10) (q0 := 0) hP hE rfl rfl [0] rfl) rfl rfl hl.1 rfl (lv_room (Nat.le_of_ble_eq_true rfl)) dX13_lays_305 ⟨Nat.le_of_ble_eq_true rfl, Nat.le_of_ble_eq_true rfl⟩) (fun r_116 hr_116 => ?_)
    refine lv_aload_n hx hb dX13_lays_308 rfl (lv_at hl 2 rfl) ?_
    refine va_get (D := D) (ci := 10) (v := .ref (a 9)) (C := RX13) (T := TX13) (N := 45) hx hb hts in_X13_lays_X13 hown hE.1 hP 0 rfl rfl 9 (by decide +kernel) (hts (.fieldLink RX13 32 "ClauseBookModel" "number" "[I") (List.mem_of_getElem? (i := 7) rfl)) (fun _ h9 => h9) rfl dX13_lays_309 ?_
    refine lv_iload_n hx hb dX13_lays_312 rfl (lv_at hl 3 rfl) ?_
    refine va_iald hx hb hE.1 hP 2 0 rfl rfl (by rw [vp_in_iff]; first | omega | (subst_vars; omega)) dX13_lays_313 ?_
    refine lv_topi (fun z_117 ez_117 => ?_)
    refine lv_icmp_lt (tgt := 322) hx hb dX13_lays_314 (by decide +kernel) (fun c_118 => ?_) (fun c_118 => ?_)
    · rw [fa_lt] at c_118
      refine lv_iload hx hb dX13_lays_322 (lv_at hl 0 rfl) ?_
      refine lv_iload_n hx hb dX13_lays_324 rfl (lv_at hl 4 rfl) ?_
      refine lv_iload_n hx hb dX13_lays_325 rfl (lv_at hl 5 rfl) ?_
      have hFc := va_free (wc := [(h0, .inr (10, (Value.int (q 0) :: Value.int (q 1) :: Value.int (q 2) :: Value.int (q 3) :: Value.int (q 4) :: Value.int (q 5) :: Value.int (q 6) :: Value.int (q 7) :: Value.ref (a 8) :: Value.ref (a 9) :: Value.ref (a 10) :: Value.ref (a 11) :: Value.ref (a 12) :: Value.ref (a 13) :: Value.int (q 14) :: Value.long v :: Value.long w :: Value.ref (a 17) :: Value.ref (a 18) :: Value.ref (a 19) :: Value.ref (a 20) :: Value.ref (a 21) :: Value.ref (a 22) :: Value.ref (a 23) :: Value.int (q 24) :: Value.ref (a 25) :: Value.int (q 26) :: Value.ref (a 27) :: Value.int (q 28) :: Value.int (q 29) :: Value.int (q 30) :: Value.int (q 31) :: Value.int (q 32) :: Value.int (q 33) :: Value.ref (a 34) :: Value.ref (a 35) :: Value.ref (a 36) :: Value.ref (a 37) :: Value.ref (a 38) :: Value.ref (a 39) :: Value.ref (a 40) :: Value.int (q 41) :: Value.ref (a 42) :: Value.int (q 43) :: Value.int (q 44) :: []))), ((a 20), .inl (T 1, 672, .inr (.inl f20))), ((a 21), .inl (T 1, 672, .inr (.inl f21))), ((a 22), .inl (T 4, 672, .inl f22))]) hD hS hA [0, 6, 7, 8] rfl
      refine va_callv (va_runV (As := [.int z_2, .int x2, .int x3]) (rest := []) ⟨hx, hb, hml, hown, hts⟩ (c_X13_takes l D T _ h0 q v w a f20 f21 f22 z_2 x2 x3 (show isB (q 14) from hB) (show ∀ j : Nat, isB (f22 j) from hZ) (show 0 ≤ z_2.toInt ∧ z_2.toInt < 24 from (by omega)) (show 0 ≤ x2.toInt ∧ x2.toInt ≤ 6 from (by omega)) (show 0 ≤ x3.toInt ∧ x3.toInt ≤ x2.toInt from (by omega)) (show ∀ j : Nat, (j : Int) = 28 * z_2.toInt + tri x2.toInt + x3.toInt → 1 ≤ (f21 j).toInt from (fun j hj => hWB.1 j (by omega)))) (cwV 3 hts gX13_lays_X13_takes rfl rfl rfl hv_X13_takes ⟨Nat.le_of_ble_eq_true rfl, Nat.le_of_ble_eq_true rfl⟩) (pW_V (q := (RX13, TX13, 45)) (ci := 10) (q0 := 0) hP hE hD rfl rfl [0, 6, 7, 8] (by decide +kernel) rfl rfl) rfl rfl hl.1 rfl (lv_room (Nat.le_of_ble_eq_true rfl)) dX13_lays_326 ⟨Nat.le_of_ble_eq_true rfl, Nat.le_of_ble_eq_true rfl⟩) hS (fun q _ h => hFc q h) hFc (fun u_120 t H1 locs ht hvm hr_119 hB hz1 hk1 hS => ?_)
      obtain ⟨n_121, l_122, l_123⟩ := u_120
      obtain ⟨hi0_r_119, hi1_r_119, hi2_r_119, hi3_r_119, hi4_r_119⟩ := hr_119
      have hB14_r_119 : isB n_121 := hi0_r_119
      have hj1_r_119 : 1 ≤ l_123.toInt := hi1_r_119
      have hj2_r_119 : (n_121 : Int32).toInt = 0 ↔ (((q 14) : Int32).toInt = 0 ∧ (f22 (slN z_2 x2 x3)).toInt = 0) := hi2_r_119
      have hj3_r_119 : l_122 = f20 (slN z_2 x2 x3) := hi3_r_119
      have hj4_r_119 : l_123 = f21 (slN z_2 x2 x3) := hi4_r_119
      obtain ⟨hP1, hD1⟩ := hB
      rw [ht] at hP1
      obtain ⟨hP, hD⟩ := va_repl [(h0, .inr (10, (Value.int (q 0) :: Value.int (q 1) :: Value.int (q 2) :: Value.int (q 3) :: Value.int (q 4) :: Value.int (q 5) :: Value.int (q 6) :: Value.int (q 7) :: Value.ref (a 8) :: Value.ref (a 9) :: Value.ref (a 10) :: Value.ref (a 11) :: Value.ref (a 12) :: Value.ref (a 13) :: Value.int n_121 :: Value.long l_122 :: Value.long l_123 :: Value.ref (a 17) :: Value.ref (a 18) :: Value.ref (a 19) :: Value.ref (a 20) :: Value.ref (a 21) :: Value.ref (a 22) :: Value.ref (a 23) :: Value.int (q 24) :: Value.ref (a 25) :: Value.int (q 26) :: Value.ref (a 27) :: Value.int (q 28) :: Value.int (q 29) :: Value.int (q 30) :: Value.int (q 31) :: Value.int (q 32) :: Value.int (q 33) :: Value.ref (a 34) :: Value.ref (a 35) :: Value.ref (a 36) :: Value.ref (a 37) :: Value.ref (a 38) :: Value.ref (a 39) :: Value.ref (a 40) :: Value.int (q 41) :: Value.ref (a 42) :: Value.int (q 43) :: Value.int (q 44) :: []))), ((a 8), .inl (T 0, 24, .inl f8)), ((a 9), .inl (T 0, 24, .inl f9)), ((a 10), .inl (T 0, 24, .inl f10)), ((a 11), .inl (T 0, 24, .inl f11)), ((a 17), .inl (T 0, 24, .inl f17)), ((a 20), .inl (T 1, 672, .inr (.inl f20))), ((a 21), .inl (T 1, 672, .inr (.inl f21))), ((a 22), .inl (T 4, 672, .inl f22))] hP hD [0, 6, 7, 8] [0, 6, 7, 8] rfl (by decide +kernel) rfl rfl rfl hk1 hP1
      clear hP1 hD1 hFc
      generalize H1 = H at hP hS ⊢
      exact W.vret hx hb hr (fun t ht hW => ⟨⟨(n_121, l_122, l_123), rfl, ⟨(show isB n_121 from hB14_r_119), (show 1 ≤ l_123.toInt from (by first | omega | (subst_vars; omega))), (show mpW n_121 l_122 l_123 = stepW (lqW (q 0) (q 1) (q 2) (q 3) (q 4) (q 5) (q 6)) f8 f9 f10 f11 f17 (tabW f20 f21 f22) x1 x2 x3 from (by
                                                            have k1 := tk_mp hM0 hj2_r_119 hj3_r_119 hj4_r_119
                                                            rw [ez_2] at k1
                                                            exact lc_12n (by omega) (by rw [← ez_3]; decide) (show ¬ (f9 (x1.toNatClampNeg)).toInt ≤ (((q 0) + ((q 1) * x3)) - ((q 2) * (x2 - x3))).toInt from by rw [← hr_116, ← ez_117]; omega) (by omega) k1))⟩, by rw [ht]; exact hP.sub [0, 1, 2, 3, 4, 5, 6, 7, 8] rfl, hD.sub [0, 1, 2, 3, 4, 5, 6, 7, 8] (by decide +kernel) rfl⟩, hS.F ht⟩) hS.2.2 dX13_lays_329
    · rw [fa_lt] at c_118
      refine lv_iload hx hb dX13_lays_317 (lv_at hl 1 rfl) ?_
      refine lv_goto (tgt := 324) hx hb dX13_lays_319 (by decide +kernel) ?_
      refine lv_iload_n hx hb dX13_lays_324 rfl (lv_at hl 4 rfl) ?_
      refine lv_iload_n hx hb dX13_lays_325 rfl (lv_at hl 5 rfl) ?_
      have hFc := va_free (wc := [(h0, .inr (10, (Value.int (q 0) :: Value.int (q 1) :: Value.int (q 2) :: Value.int (q 3) :: Value.int (q 4) :: Value.int (q 5) :: Value.int (q 6) :: Value.int (q 7) :: Value.ref (a 8) :: Value.ref (a 9) :: Value.ref (a 10) :: Value.ref (a 11) :: Value.ref (a 12) :: Value.ref (a 13) :: Value.int (q 14) :: Value.long v :: Value.long w :: Value.ref (a 17) :: Value.ref (a 18) :: Value.ref (a 19) :: Value.ref (a 20) :: Value.ref (a 21) :: Value.ref (a 22) :: Value.ref (a 23) :: Value.int (q 24) :: Value.ref (a 25) :: Value.int (q 26) :: Value.ref (a 27) :: Value.int (q 28) :: Value.int (q 29) :: Value.int (q 30) :: Value.int (q 31) :: Value.int (q 32) :: Value.int (q 33) :: Value.ref (a 34) :: Value.ref (a 35) :: Value.ref (a 36) :: Value.ref (a 37) :: Value.ref (a 38) :: Value.ref (a 39) :: Value.ref (a 40) :: Value.int (q 41) :: Value.ref (a 42) :: Value.int (q 43) :: Value.int (q 44) :: []))), ((a 20), .inl (T 1, 672, .inr (.inl f20))), ((a 21), .inl (T 1, 672, .inr (.inl f21))), ((a 22), .inl (T 4, 672, .inl f22))]) hD hS hA [0, 6, 7, 8] rfl
      refine va_callv (va_runV (As := [.int z_1, .int x2, .int x3]) (rest := []) ⟨hx, hb, hml, hown, hts⟩ (c_X13_takes l D T _ h0 q v w a f20 f21 f22 z_1 x2 x3 (show isB (q 14) from hB) (show ∀ j : Nat, isB (f22 j) from hZ) (show 0 ≤ z_1.toInt ∧ z_1.toInt < 24 from (by omega)) (show 0 ≤ x2.toInt ∧ x2.toInt ≤ 6 from (by omega)) (show 0 ≤ x3.toInt ∧ x3.toInt ≤ x2.toInt from (by omega)) (show ∀ j : Nat, (j : Int) = 28 * z_1.toInt + tri x2.toInt + x3.toInt → 1 ≤ (f21 j).toInt from (fun j hj => hWB.1 j (by omega)))) (cwV 3 hts gX13_lays_X13_takes rfl rfl rfl hv_X13_takes ⟨Nat.le_of_ble_eq_true rfl, Nat.le_of_ble_eq_true rfl⟩) (pW_V (q := (RX13, TX13, 45)) (ci := 10) (q0 := 0) hP hE hD rfl rfl [0, 6, 7, 8] (by decide +kernel) rfl rfl) rfl rfl hl.1 rfl (lv_room (Nat.le_of_ble_eq_true rfl)) dX13_lays_326 ⟨Nat.le_of_ble_eq_true rfl, Nat.le_of_ble_eq_true rfl⟩) hS (fun q _ h => hFc q h) hFc (fun u_125 t H1 locs ht hvm hr_124 hB hz1 hk1 hS => ?_)
      obtain ⟨n_126, l_127, l_128⟩ := u_125
      obtain ⟨hi0_r_124, hi1_r_124, hi2_r_124, hi3_r_124, hi4_r_124⟩ := hr_124
      have hB14_r_124 : isB n_126 := hi0_r_124
      have hj1_r_124 : 1 ≤ l_128.toInt := hi1_r_124
      have hj2_r_124 : (n_126 : Int32).toInt = 0 ↔ (((q 14) : Int32).toInt = 0 ∧ (f22 (slN z_1 x2 x3)).toInt = 0) := hi2_r_124
      have hj3_r_124 : l_127 = f20 (slN z_1 x2 x3) := hi3_r_124
      have hj4_r_124 : l_128 = f21 (slN z_1 x2 x3) := hi4_r_124
      obtain ⟨hP1, hD1⟩ := hB
      rw [ht] at hP1
      obtain ⟨hP, hD⟩ := va_repl [(h0, .inr (10, (Value.int (q 0) :: Value.int (q 1) :: Value.int (q 2) :: Value.int (q 3) :: Value.int (q 4) :: Value.int (q 5) :: Value.int (q 6) :: Value.int (q 7) :: Value.ref (a 8) :: Value.ref (a 9) :: Value.ref (a 10) :: Value.ref (a 11) :: Value.ref (a 12) :: Value.ref (a 13) :: Value.int n_126 :: Value.long l_127 :: Value.long l_128 :: Value.ref (a 17) :: Value.ref (a 18) :: Value.ref (a 19) :: Value.ref (a 20) :: Value.ref (a 21) :: Value.ref (a 22) :: Value.ref (a 23) :: Value.int (q 24) :: Value.ref (a 25) :: Value.int (q 26) :: Value.ref (a 27) :: Value.int (q 28) :: Value.int (q 29) :: Value.int (q 30) :: Value.int (q 31) :: Value.int (q 32) :: Value.int (q 33) :: Value.ref (a 34) :: Value.ref (a 35) :: Value.ref (a 36) :: Value.ref (a 37) :: Value.ref (a 38) :: Value.ref (a 39) :: Value.ref (a 40) :: Value.int (q 41) :: Value.ref (a 42) :: Value.int (q 43) :: Value.int (q 44) :: []))), ((a 8), .inl (T 0, 24, .inl f8)), ((a 9), .inl (T 0, 24, .inl f9)), ((a 10), .inl (T 0, 24, .inl f10)), ((a 11), .inl (T 0, 24, .inl f11)), ((a 17), .inl (T 0, 24, .inl f17)), ((a 20), .inl (T 1, 672, .inr (.inl f20))), ((a 21), .inl (T 1, 672, .inr (.inl f21))), ((a 22), .inl (T 4, 672, .inl f22))] hP hD [0, 6, 7, 8] [0, 6, 7, 8] rfl (by decide +kernel) rfl rfl rfl hk1 hP1
      clear hP1 hD1 hFc
      generalize H1 = H at hP hS ⊢
      exact W.vret hx hb hr (fun t ht hW => ⟨⟨(n_126, l_127, l_128), rfl, ⟨(show isB n_126 from hB14_r_124), (show 1 ≤ l_128.toInt from (by first | omega | (subst_vars; omega))), (show mpW n_126 l_127 l_128 = stepW (lqW (q 0) (q 1) (q 2) (q 3) (q 4) (q 5) (q 6)) f8 f9 f10 f11 f17 (tabW f20 f21 f22) x1 x2 x3 from (by
                                                            have k1 := tk_mp hM0 hj2_r_124 hj3_r_124 hj4_r_124
                                                            rw [ez_1] at k1
                                                            exact lc_12y (by omega) (by rw [← ez_3]; decide) (show (f9 (x1.toNatClampNeg)).toInt ≤ (((q 0) + ((q 1) * x3)) - ((q 2) * (x2 - x3))).toInt from by rw [← hr_116, ← ez_117]; omega) (by omega) k1))⟩, by rw [ht]; exact hP.sub [0, 1, 2, 3, 4, 5, 6, 7, 8] rfl, hD.sub [0, 1, 2, 3, 4, 5, 6, 7, 8] (by decide +kernel) rfl⟩, hS.F ht⟩) hS.2.2 dX13_lays_329
  rw [fa_eq] at k_4 k_9 k_14 k_25 k_37 k_49 k_65 k_71 k_77 k_83 k_96 k_109 k_115
  try simp only [ti_0, ti_1, ti_2, ti_3, ti_4, ti_5, ti_6, ti_7, ti_8, ti_9, ti_10, ti_11, ti_12] at k_4 k_9 k_14 k_25 k_37 k_49 k_65 k_71 k_77 k_83 k_96 k_109 k_115
  refine lv_tableOut (tgt := 330) hx hb dX13_lays_22 (by omega) (by decide +kernel) ?_
  exfalso
  omega
end
section
theorem isB_up {f : Nat → Int32} {k : Nat} {v : Int32} (h : ∀ j : Nat, isB (f j)) (hv : isB v) : ∀ j : Nat, isB (upd f k v j) := by
  intro j
  simp only [upd]
  split
  · exact hv
  · exact h j
theorem wb_up {g : Nat → Int64} {k j : Nat} {v : Int64} (hv : 1 ≤ v.toInt) (h : j ≠ k → 1 ≤ (g j).toInt) : 1 ≤ (vp_updL g k v j).toInt := by
  simp only [vp_updL]
  split
  · exact hv
  · rename_i e
    exact h e
/-- what is laid of clause x: its days behind d, of day d the first k spots, and all of the earlier clauses -/
def wbS (g : Nat → Int64) (x d k : Int) : Prop := wbK g x d ∧ ∀ j : Nat, 28 * x + tri d ≤ j → (j : Int) < 28 * x + tri d + k → 1 ≤ (g j).toInt
theorem wbS_up {g : Nat → Int64} {x d k : Int} {r : Int32} {v : Int64} (h : wbS g x d k) (hr : 0 ≤ r.toInt) (e : r.toInt = 28 * x + tri d + k) (hv : 1 ≤ v.toInt) : wbS (vp_updL g r.toNatClampNeg v) x d (k + 1) := by
  have h9 := tn hr
  refine ⟨⟨fun j hj => wb_up hv fun _ => h.1.1 j hj, fun j h1 h2 => wb_up hv fun _ => h.1.2 j h1 h2⟩, fun j h1 h2 => wb_up hv fun hne => ?_⟩
  exact h.2 j h1 (by omega)
theorem wbS_day {g : Nat → Int64} {x d k : Int} (h : wbS g x d k) (hd : 0 ≤ d ∧ d ≤ 6) (hk : d < k) : wbK g x (d - 1) := by
  have ht := tri_in hd
  have e : d - 1 + 1 = d := by omega
  refine ⟨h.1.1, fun j h1 h2 => ?_⟩
  rw [e] at h1
  by_cases hj : (j : Int) < 28 * x + tri d + k
  · exact h.2 j h1 hj
  · exact h.1.2 j (by omega) h2
theorem wbK_row {g : Nat → Int64} {x d : Int} (h : wbK g x d) (hd : d < 0 ∧ -1 ≤ d) : ∀ j : Nat, (j : Int) < 28 * (x + 1) → 1 ≤ (g j).toInt := by
  intro j hj
  obtain rfl : d = -1 := by omega
  have e : tri (-1 + 1) = 0 := by decide
  by_cases h1 : (j : Int) < 28 * x
  · exact h.1 j h1
  · exact h.2 j (by rw [e]; omega) (by omega)
theorem wbK_new {g : Nat → Int64} {x : Int} (h : ∀ j : Nat, (j : Int) < 28 * x → 1 ≤ (g j).toInt) : wbK g x 6 := by
  have e : tri (6 + 1) = 28 := by decide
  exact ⟨h, fun j h1 h2 => by rw [e] at h1; omega⟩
theorem wbS_new {g : Nat → Int64} {x d : Int} (h : wbK g x d) : wbS g x d 0 := ⟨h, fun j h1 h2 => by omega⟩
theorem dX13_laysWorths_0 : decode cX13_laysWorths 0 = .ok (.aload_n 0, 1) := by decide +kernel
theorem dX13_laysWorths_1 : decode cX13_laysWorths 1 = .ok (.invokevirtual 236, 3) := by decide +kernel
theorem dX13_laysWorths_100 : decode cX13_laysWorths 100 = .ok (.lastore, 1) := by decide +kernel
theorem dX13_laysWorths_101 : decode cX13_laysWorths 101 = .ok (.aload_n 0, 1) := by decide +kernel
theorem dX13_laysWorths_102 : decode cX13_laysWorths 102 = .ok (.getfield 60, 3) := by decide +kernel
theorem dX13_laysWorths_105 : decode cX13_laysWorths 105 = .ok (.iload 5, 2) := by decide +kernel
theorem dX13_laysWorths_107 : decode cX13_laysWorths 107 = .ok (.aload_n 0, 1) := by decide +kernel
theorem dX13_laysWorths_108 : decode cX13_laysWorths 108 = .ok (.getfield 131, 3) := by decide +kernel
theorem dX13_laysWorths_11 : decode cX13_laysWorths 11 = .ok (.bipush 6, 2) := by decide +kernel
theorem dX13_laysWorths_111 : decode cX13_laysWorths 111 = .ok (.ifCond .eq 7, 3) := by decide +kernel
theorem dX13_laysWorths_114 : decode cX13_laysWorths 114 = .ok (.lconst 1, 1) := by decide +kernel
theorem dX13_laysWorths_115 : decode cX13_laysWorths 115 = .ok (.goto 7, 3) := by decide +kernel
theorem dX13_laysWorths_118 : decode cX13_laysWorths 118 = .ok (.aload_n 0, 1) := by decide +kernel
theorem dX13_laysWorths_119 : decode cX13_laysWorths 119 = .ok (.getfield 149, 3) := by decide +kernel
theorem dX13_laysWorths_122 : decode cX13_laysWorths 122 = .ok (.lastore, 1) := by decide +kernel
theorem dX13_laysWorths_123 : decode cX13_laysWorths 123 = .ok (.iinc 4 1, 3) := by decide +kernel
theorem dX13_laysWorths_126 : decode cX13_laysWorths 126 = .ok (.goto (-105), 3) := by decide +kernel
theorem dX13_laysWorths_129 : decode cX13_laysWorths 129 = .ok (.iinc 3 (-1), 3) := by decide +kernel
theorem dX13_laysWorths_13 : decode cX13_laysWorths 13 = .ok (.istore_n 3, 1) := by decide +kernel
theorem dX13_laysWorths_132 : decode cX13_laysWorths 132 = .ok (.goto (-118), 3) := by decide +kernel
theorem dX13_laysWorths_135 : decode cX13_laysWorths 135 = .ok (.iinc 2 1, 3) := by decide +kernel
theorem dX13_laysWorths_138 : decode cX13_laysWorths 138 = .ok (.goto (-132), 3) := by decide +kernel
theorem dX13_laysWorths_14 : decode cX13_laysWorths 14 = .ok (.iload_n 3, 1) := by decide +kernel
theorem dX13_laysWorths_141 : decode cX13_laysWorths 141 = .ok (.aload_n 0, 1) := by decide +kernel
theorem dX13_laysWorths_142 : decode cX13_laysWorths 142 = .ok (.iconst 0, 1) := by decide +kernel
theorem dX13_laysWorths_143 : decode cX13_laysWorths 143 = .ok (.putfield 131, 3) := by decide +kernel
theorem dX13_laysWorths_146 : decode cX13_laysWorths 146 = .ok (.return_, 1) := by decide +kernel
theorem dX13_laysWorths_15 : decode cX13_laysWorths 15 = .ok (.ifCond .lt 120, 3) := by decide +kernel
theorem dX13_laysWorths_18 : decode cX13_laysWorths 18 = .ok (.iconst 0, 1) := by decide +kernel
theorem dX13_laysWorths_19 : decode cX13_laysWorths 19 = .ok (.istore 4, 2) := by decide +kernel
theorem dX13_laysWorths_21 : decode cX13_laysWorths 21 = .ok (.iload 4, 2) := by decide +kernel
theorem dX13_laysWorths_23 : decode cX13_laysWorths 23 = .ok (.iload_n 3, 1) := by decide +kernel
theorem dX13_laysWorths_24 : decode cX13_laysWorths 24 = .ok (.if_icmp .gt 105, 3) := by decide +kernel
theorem dX13_laysWorths_27 : decode cX13_laysWorths 27 = .ok (.aload_n 0, 1) := by decide +kernel
theorem dX13_laysWorths_28 : decode cX13_laysWorths 28 = .ok (.iconst 0, 1) := by decide +kernel
theorem dX13_laysWorths_29 : decode cX13_laysWorths 29 = .ok (.putfield 131, 3) := by decide +kernel
theorem dX13_laysWorths_32 : decode cX13_laysWorths 32 = .ok (.iload_n 3, 1) := by decide +kernel
theorem dX13_laysWorths_33 : decode cX13_laysWorths 33 = .ok (.aload_n 0, 1) := by decide +kernel
theorem dX13_laysWorths_34 : decode cX13_laysWorths 34 = .ok (.getfield 47, 3) := by decide +kernel
theorem dX13_laysWorths_37 : decode cX13_laysWorths 37 = .ok (.iload_n 2, 1) := by decide +kernel
theorem dX13_laysWorths_38 : decode cX13_laysWorths 38 = .ok (.iaload, 1) := by decide +kernel
theorem dX13_laysWorths_39 : decode cX13_laysWorths 39 = .ok (.if_icmp .le 12, 3) := by decide +kernel
theorem dX13_laysWorths_4 : decode cX13_laysWorths 4 = .ok (.iconst 0, 1) := by decide +kernel
theorem dX13_laysWorths_42 : decode cX13_laysWorths 42 = .ok (.aload_n 0, 1) := by decide +kernel
theorem dX13_laysWorths_43 : decode cX13_laysWorths 43 = .ok (.lconst 0, 1) := by decide +kernel
theorem dX13_laysWorths_44 : decode cX13_laysWorths 44 = .ok (.lconst 1, 1) := by decide +kernel
theorem dX13_laysWorths_45 : decode cX13_laysWorths 45 = .ok (.invokevirtual 155, 3) := by decide +kernel
theorem dX13_laysWorths_48 : decode cX13_laysWorths 48 = .ok (.goto 11, 3) := by decide +kernel
theorem dX13_laysWorths_5 : decode cX13_laysWorths 5 = .ok (.istore_n 2, 1) := by decide +kernel
theorem dX13_laysWorths_51 : decode cX13_laysWorths 51 = .ok (.aload_n 0, 1) := by decide +kernel
theorem dX13_laysWorths_52 : decode cX13_laysWorths 52 = .ok (.iload_n 2, 1) := by decide +kernel
theorem dX13_laysWorths_53 : decode cX13_laysWorths 53 = .ok (.iload_n 3, 1) := by decide +kernel
theorem dX13_laysWorths_54 : decode cX13_laysWorths 54 = .ok (.iload 4, 2) := by decide +kernel
theorem dX13_laysWorths_56 : decode cX13_laysWorths 56 = .ok (.invokevirtual 267, 3) := by decide +kernel
theorem dX13_laysWorths_59 : decode cX13_laysWorths 59 = .ok (.iload_n 2, 1) := by decide +kernel
theorem dX13_laysWorths_6 : decode cX13_laysWorths 6 = .ok (.iload_n 2, 1) := by decide +kernel
theorem dX13_laysWorths_60 : decode cX13_laysWorths 60 = .ok (.iload_n 3, 1) := by decide +kernel
theorem dX13_laysWorths_61 : decode cX13_laysWorths 61 = .ok (.iload 4, 2) := by decide +kernel
theorem dX13_laysWorths_63 : decode cX13_laysWorths 63 = .ok (.invokestatic 239, 3) := by decide +kernel
theorem dX13_laysWorths_66 : decode cX13_laysWorths 66 = .ok (.istore 5, 2) := by decide +kernel
theorem dX13_laysWorths_68 : decode cX13_laysWorths 68 = .ok (.aload_n 0, 1) := by decide +kernel
theorem dX13_laysWorths_69 : decode cX13_laysWorths 69 = .ok (.getfield 63, 3) := by decide +kernel
theorem dX13_laysWorths_7 : decode cX13_laysWorths 7 = .ok (.iload_n 1, 1) := by decide +kernel
theorem dX13_laysWorths_72 : decode cX13_laysWorths 72 = .ok (.iload 5, 2) := by decide +kernel
theorem dX13_laysWorths_74 : decode cX13_laysWorths 74 = .ok (.aload_n 0, 1) := by decide +kernel
theorem dX13_laysWorths_75 : decode cX13_laysWorths 75 = .ok (.getfield 131, 3) := by decide +kernel
theorem dX13_laysWorths_78 : decode cX13_laysWorths 78 = .ok (.bastore, 1) := by decide +kernel
theorem dX13_laysWorths_79 : decode cX13_laysWorths 79 = .ok (.aload_n 0, 1) := by decide +kernel
theorem dX13_laysWorths_8 : decode cX13_laysWorths 8 = .ok (.if_icmp .gt 133, 3) := by decide +kernel
theorem dX13_laysWorths_80 : decode cX13_laysWorths 80 = .ok (.getfield 56, 3) := by decide +kernel
theorem dX13_laysWorths_83 : decode cX13_laysWorths 83 = .ok (.iload 5, 2) := by decide +kernel
theorem dX13_laysWorths_85 : decode cX13_laysWorths 85 = .ok (.aload_n 0, 1) := by decide +kernel
theorem dX13_laysWorths_86 : decode cX13_laysWorths 86 = .ok (.getfield 131, 3) := by decide +kernel
theorem dX13_laysWorths_89 : decode cX13_laysWorths 89 = .ok (.ifCond .eq 7, 3) := by decide +kernel
theorem dX13_laysWorths_92 : decode cX13_laysWorths 92 = .ok (.lconst 0, 1) := by decide +kernel
theorem dX13_laysWorths_93 : decode cX13_laysWorths 93 = .ok (.goto 7, 3) := by decide +kernel
theorem dX13_laysWorths_96 : decode cX13_laysWorths 96 = .ok (.aload_n 0, 1) := by decide +kernel
theorem dX13_laysWorths_97 : decode cX13_laysWorths 97 = .ok (.getfield 145, 3) := by decide +kernel
set_option maxRecDepth 20000 in
theorem ggX13_laysWorths_X13_at : GoodIn wsX13_laysWorths wsX13_at := goodIn_r _ [48] rfl (by decide +kernel)
set_option maxRecDepth 20000 in
theorem ggX13_laysWorths_X13_becomes : GoodIn wsX13_laysWorths wsX13_becomes := goodIn_r _ [33, 1, 5, 7, 34, 35, 11, 36, 100, 101, 102, 103, 104, 105, 106, 107, 108, 109, 110, 111, 112, 113, 114, 115, 116, 117, 118, 119, 120, 121, 122, 123, 124, 125, 126, 127, 128, 129, 130, 131, 132, 133, 134, 135, 136, 137, 138, 139, 140, 141, 142, 143, 144] rfl (by decide +kernel)
set_option maxRecDepth 40000 in
theorem ggX13_laysWorths_X13_lays_0 : GoodIn wsX13_laysWorths [.code yX13_lays cX13_lays 10 none] := goodIn_r _ [40] rfl (by decide +kernel)
set_option maxRecDepth 40000 in
theorem ggX13_laysWorths_X13_lays_1 : GoodIn wsX13_laysWorths wsX13_lays_r1 := goodIn_r _ [15, 16, 14, 41, 5, 7, 21, 2, 30, 31, 32, 11, 33, 1, 34, 35, 36, 42, 43, 44, 45, 3, 4, 6] rfl (by decide +kernel)
set_option maxRecDepth 40000 in
theorem ggX13_laysWorths_X13_lays_2 : GoodIn wsX13_laysWorths wsX13_lays_r2 := goodIn_r _ [46, 47, 48, 49, 50, 51, 52, 53, 54, 55, 56, 57, 58, 59, 60, 61, 62, 63, 64, 65, 66, 67, 68, 69] rfl (by decide +kernel)
set_option maxRecDepth 40000 in
theorem ggX13_laysWorths_X13_lays_3 : GoodIn wsX13_laysWorths wsX13_lays_r3 := goodIn_r _ [70, 71, 72, 73, 74, 75, 76, 77, 78, 79, 80, 81, 82, 83, 84, 85, 86, 87, 88, 89, 90, 91, 92, 93] rfl (by decide +kernel)
set_option maxRecDepth 40000 in
theorem ggX13_laysWorths_X13_lays_4 : GoodIn wsX13_laysWorths wsX13_lays_r4 := goodIn_r _ [94, 95, 96, 97, 98, 99] rfl (by decide +kernel)
set_option maxRecDepth 40000 in
theorem ggX13_laysWorths_X13_lays_5 : GoodIn wsX13_laysWorths wsX130 := goodIn_r _ [100, 101, 102, 103, 104, 105, 106, 107, 108, 109, 110, 111, 112, 113, 114, 115, 116, 117, 118, 119, 120, 121, 122, 123, 124, 125, 126, 127, 128, 129, 130, 131, 132, 133, 134, 135, 136, 137, 138, 139, 140, 141, 142, 143, 144] rfl (by decide +kernel)
set_option maxRecDepth 40000 in
theorem ggX13_laysWorths_X13_lays : GoodIn wsX13_laysWorths wsX13_lays := (goodIn_app ggX13_laysWorths_X13_lays_0 (goodIn_app (goodIn_app ggX13_laysWorths_X13_lays_1 (goodIn_app ggX13_laysWorths_X13_lays_2 (goodIn_app ggX13_laysWorths_X13_lays_3 ggX13_laysWorths_X13_lays_4))) ggX13_laysWorths_X13_lays_5))
set_option maxRecDepth 40000 in
theorem ggX13_laysWorths_X13_laysParts_0 : GoodIn wsX13_laysWorths [.code yX13_laysParts cX13_laysParts 5 none] := goodIn_r _ [12] rfl (by decide +kernel)
set_option maxRecDepth 40000 in
theorem ggX13_laysWorths_X13_laysParts_1 : GoodIn wsX13_laysWorths [.fieldLink RX13 205 "ClauseBookModel" "many" "I", .fieldLink RX13 28 "ClauseBookModel" "kind" "[I", .fieldLink RX13 35 "ClauseBookModel" "one" "[I", .fieldLink RX13 38 "ClauseBookModel" "two" "[I", .fieldLink RX13 47 "ClauseBookModel" "end" "[I", .methodLink RX13 227 Lib.Math.max.name, .static Lib.Math.max.name, .initialized "java/lang/Math", .code Lib.Math.max.name Lib.Math.max.code 2 (some .int), .fieldLink RX13 32 "ClauseBookModel" "number" "[I", .methodLink RX13 230 Lib.Math.min.name, .static Lib.Math.min.name, .code Lib.Math.min.name Lib.Math.min.code 2 (some .int), .fieldLink RX13 50 "ClauseBookModel" "parts" "[I", .fieldLink RX13 53 "ClauseBookModel" "deep" "[I", .methodLink RX13 210 yX13_names, .static yX13_names, .initialized RX13, .code yX13_names cX13_names 1 (some .int)] := goodIn_r _ [13, 14, 15, 16, 2, 17, 18, 19, 20, 21, 22, 23, 24, 25, 26, 27, 28, 11, 29] rfl (by decide +kernel)
set_option maxRecDepth 40000 in
theorem ggX13_laysWorths_X13_laysParts_2 : GoodIn wsX13_laysWorths wsX130 := goodIn_r _ [100, 101, 102, 103, 104, 105, 106, 107, 108, 109, 110, 111, 112, 113, 114, 115, 116, 117, 118, 119, 120, 121, 122, 123, 124, 125, 126, 127, 128, 129, 130, 131, 132, 133, 134, 135, 136, 137, 138, 139, 140, 141, 142, 143, 144] rfl (by decide +kernel)
set_option maxRecDepth 40000 in
theorem ggX13_laysWorths_X13_laysParts : GoodIn wsX13_laysWorths wsX13_laysParts := (goodIn_app ggX13_laysWorths_X13_laysParts_0 (goodIn_app ggX13_laysWorths_X13_laysParts_1 ggX13_laysWorths_X13_laysParts_2))
set_option maxRecDepth 20000 in
theorem gX13_laysWorths_X13_at : GoodIn wsX13_laysWorths (va_wsS RX13 239 yX13_at wsX13_at) := goodIn_app (goodIn_of _ (by decide +kernel)) ggX13_laysWorths_X13_at
set_option maxRecDepth 20000 in
theorem gX13_laysWorths_X13_becomes : GoodIn wsX13_laysWorths (wsV RX13 155 RX13 yX13_becomes wsX13_becomes) := goodIn_app (goodIn_r _ [30, 31, 32, 11] rfl (by decide +kernel)) ggX13_laysWorths_X13_becomes
set_option maxRecDepth 20000 in
theorem gX13_laysWorths_X13_lays : GoodIn wsX13_laysWorths (wsV RX13 267 RX13 yX13_lays wsX13_lays) := goodIn_app (goodIn_r _ [37, 38, 39, 11] rfl (by decide +kernel)) ggX13_laysWorths_X13_lays
set_option maxRecDepth 20000 in
theorem gX13_laysWorths_X13_laysParts : GoodIn wsX13_laysWorths (wsV RX13 236 RX13 yX13_laysParts wsX13_laysParts) := goodIn_app (goodIn_r _ [8, 9, 10, 11] rfl (by decide +kernel)) ggX13_laysWorths_X13_laysParts
theorem hv_X13_lays : yX13_lays.cls = RX13 ∧ yX13_lays.cls ≠ "java/lang/invoke/MethodHandle" ∧ yX13_lays.cls ≠ "java/lang/invoke/VarHandle" ∧ (parseMethodDescriptor yX13_lays.desc).map (fun d => d.parameters.length) = some 3 := by decide +kernel
theorem hv_X13_laysParts : yX13_laysParts.cls = RX13 ∧ yX13_laysParts.cls ≠ "java/lang/invoke/MethodHandle" ∧ yX13_laysParts.cls ≠ "java/lang/invoke/VarHandle" ∧ (parseMethodDescriptor yX13_laysParts.desc).map (fun d => d.parameters.length) = some 0 := by decide +kernel
set_option maxRecDepth 20000 in
theorem in_X13_laysWorths_X13 : ∀ w ∈ wsX130, w ∈ wsX13_laysWorths := sub_r [100, 101, 102, 103, 104, 105, 106, 107, 108, 109, 110, 111, 112, 113, 114, 115, 116, 117, 118, 119, 120, 121, 122, 123, 124, 125, 126, 127, 128, 129, 130, 131, 132, 133, 134, 135, 136, 137, 138, 139, 140, 141, 142, 143, 144] rfl
set_option maxHeartbeats 4000000 in
set_option maxRecDepth 100000 in
theorem c_X13_laysWorths (l : Launch) (D : va_G) (T : Nat → ClassId) (sz : Nat) (h0 : Nat) (q : Nat → Int32) (v : Int64) (w : Int64) (a : Nat → Nat) (f8 : Nat → Int32) (f9 : Nat → Int32) (f10 : Nat → Int32) (f11 : Nat → Int32) (f17 : Nat → Int32) (f18 : Nat → Int32) (f19 : Nat → Int32) (f20 : Nat → Int64) (f21 : Nat → Int64) (f22 : Nat → Int32) (x1 : Int32) (hm : 0 ≤ (q 7).toInt ∧ (q 7).toInt ≤ 24) (hokR : okR f8 f10 f11) (hZ : ∀ j : Nat, isB (f22 j)) (hL : (1 ≤ (q 4).toInt ∧ (q 4).toInt ≤ 9) ∧ 1 ≤ (q 6).toInt ∧ (q 6).toInt ≤ 9) (hla : -1 ≤ x1.toInt ∧ x1.toInt < (q 7).toInt) : Met l yX13_laysWorths wsX13_laysWorths ({ frames := 133, cells := 0, slots := 0, locals := 5258 }) (pW [.ref h0, .int x1] D T [(h0, .inr (10, (Value.int (q 0) :: Value.int (q 1) :: Value.int (q 2) :: Value.int (q 3) :: Value.int (q 4) :: Value.int (q 5) :: Value.int (q 6) :: Value.int (q 7) :: Value.ref (a 8) :: Value.ref (a 9) :: Value.ref (a 10) :: Value.ref (a 11) :: Value.ref (a 12) :: Value.ref (a 13) :: Value.int (q 14) :: Value.long v :: Value.long w :: Value.ref (a 17) :: Value.ref (a 18) :: Value.ref (a 19) :: Value.ref (a 20) :: Value.ref (a 21) :: Value.ref (a 22) :: Value.ref (a 23) :: Value.int (q 24) :: Value.ref (a 25) :: Value.int (q 26) :: Value.ref (a 27) :: Value.int (q 28) :: Value.int (q 29) :: Value.int (q 30) :: Value.int (q 31) :: Value.int (q 32) :: Value.int (q 33) :: Value.ref (a 34) :: Value.ref (a 35) :: Value.ref (a 36) :: Value.ref (a 37) :: Value.ref (a 38) :: Value.ref (a 39) :: Value.ref (a 40) :: Value.int (q 41) :: Value.ref (a 42) :: Value.int (q 43) :: Value.int (q 44) :: []))), ((a 8), .inl (T 0, 24, .inl f8)), ((a 9), .inl (T 0, 24, .inl f9)), ((a 10), .inl (T 0, 24, .inl f10)), ((a 11), .inl (T 0, 24, .inl f11)), ((a 17), .inl (T 0, 24, .inl f17)), ((a 18), .inl (T 0, 24, .inl f18)), ((a 19), .inl (T 0, 24, .inl f19)), ((a 20), .inl (T 1, 672, .inr (.inl f20))), ((a 21), .inl (T 1, 672, .inr (.inl f21))), ((a 22), .inl (T 4, 672, .inl f22))] sz) (va_Qv (fun (u : (Int64) × (Int64) × (Nat → Int32) × (Nat → Int32) × (Nat → Int32) × (Nat → Int64) × (Nat → Int64) × (Nat → Int32)) => (∀ j : Nat, isB (u.2.2.2.2.2.2.2 j)) ∧ (okE f8 f10 u.2.2.1 (q 7).toInt) ∧ (∀ j : Nat, (j : Int) < 28 * (x1.toInt + 1) → 1 ≤ (u.2.2.2.2.2.2.1 j).toInt) ∧ (∀ y t s : Int32, spK t s → 0 ≤ y.toInt → y.toInt ≤ x1.toInt → tabW u.2.2.2.2.2.1 u.2.2.2.2.2.2.1 u.2.2.2.2.2.2.2 y t s = VALW (lqW (q 0) (q 1) (q 2) (q 3) (q 4) (q 5) (q 6)) f8 f9 f10 f11 u.2.2.1 y t s) ∧ (∀ j : Nat, (j : Int) < (q 7).toInt → mesP f8 f9 f10 f11 u.2.2.1 u.2.2.2.1 u.2.2.2.2.1 j)) (bW D (va_A [(h0, .inr (10, (Value.int (q 0) :: Value.int (q 1) :: Value.int (q 2) :: Value.int (q 3) :: Value.int (q 4) :: Value.int (q 5) :: Value.int (q 6) :: Value.int (q 7) :: Value.ref (a 8) :: Value.ref (a 9) :: Value.ref (a 10) :: Value.ref (a 11) :: Value.ref (a 12) :: Value.ref (a 13) :: Value.int (q 14) :: Value.long v :: Value.long w :: Value.ref (a 17) :: Value.ref (a 18) :: Value.ref (a 19) :: Value.ref (a 20) :: Value.ref (a 21) :: Value.ref (a 22) :: Value.ref (a 23) :: Value.int (q 24) :: Value.ref (a 25) :: Value.int (q 26) :: Value.ref (a 27) :: Value.int (q 28) :: Value.int (q 29) :: Value.int (q 30) :: Value.int (q 31) :: Value.int (q 32) :: Value.int (q 33) :: Value.ref (a 34) :: Value.ref (a 35) :: Value.ref (a 36) :: Value.ref (a 37) :: Value.ref (a 38) :: Value.ref (a 39) :: Value.ref (a 40) :: Value.int (q 41) :: Value.ref (a 42) :: Value.int (q 43) :: Value.int (q 44) :: []))), ((a 8), .inl (T 0, 24, .inl f8)), ((a 9), .inl (T 0, 24, .inl f9)), ((a 10), .inl (T 0, 24, .inl f10)), ((a 11), .inl (T 0, 24, .inl f11)), ((a 17), .inl (T 0, 24, .inl f17)), ((a 18), .inl (T 0, 24, .inl f18)), ((a 19), .inl (T 0, 24, .inl f19)), ((a 20), .inl (T 1, 672, .inr (.inl f20))), ((a 21), .inl (T 1, 672, .inr (.inl f21))), ((a 22), .inl (T 4, 672, .inl f22))] sz) (fun (u : (Int64) × (Int64) × (Nat → Int32) × (Nat → Int32) × (Nat → Int32) × (Nat → Int64) × (Nat → Int64) × (Nat → Int32)) => [(h0, .inr (10, (Value.int (q 0) :: Value.int (q 1) :: Value.int (q 2) :: Value.int (q 3) :: Value.int (q 4) :: Value.int (q 5) :: Value.int (q 6) :: Value.int (q 7) :: Value.ref (a 8) :: Value.ref (a 9) :: Value.ref (a 10) :: Value.ref (a 11) :: Value.ref (a 12) :: Value.ref (a 13) :: Value.int 0 :: Value.long u.1 :: Value.long u.2.1 :: Value.ref (a 17) :: Value.ref (a 18) :: Value.ref (a 19) :: Value.ref (a 20) :: Value.ref (a 21) :: Value.ref (a 22) :: Value.ref (a 23) :: Value.int (q 24) :: Value.ref (a 25) :: Value.int (q 26) :: Value.ref (a 27) :: Value.int (q 28) :: Value.int (q 29) :: Value.int (q 30) :: Value.int (q 31) :: Value.int (q 32) :: Value.int (q 33) :: Value.ref (a 34) :: Value.ref (a 35) :: Value.ref (a 36) :: Value.ref (a 37) :: Value.ref (a 38) :: Value.ref (a 39) :: Value.ref (a 40) :: Value.int (q 41) :: Value.ref (a 42) :: Value.int (q 43) :: Value.int (q 44) :: []))), ((a 8), .inl (T 0, 24, .inl f8)), ((a 9), .inl (T 0, 24, .inl f9)), ((a 10), .inl (T 0, 24, .inl f10)), ((a 11), .inl (T 0, 24, .inl f11)), ((a 17), .inl (T 0, 24, .inl u.2.2.1)), ((a 18), .inl (T 0, 24, .inl u.2.2.2.1)), ((a 19), .inl (T 0, 24, .inl u.2.2.2.2.1)), ((a 20), .inl (T 1, 672, .inr (.inl u.2.2.2.2.2.1))), ((a 21), .inl (T 1, 672, .inr (.inl u.2.2.2.2.2.2.1))), ((a 22), .inl (T 4, 672, .inl u.2.2.2.2.2.2.2))])) (va_A [(h0, .inr (10, (Value.int (q 0) :: Value.int (q 1) :: Value.int (q 2) :: Value.int (q 3) :: Value.int (q 4) :: Value.int (q 5) :: Value.int (q 6) :: Value.int (q 7) :: Value.ref (a 8) :: Value.ref (a 9) :: Value.ref (a 10) :: Value.ref (a 11) :: Value.ref (a 12) :: Value.ref (a 13) :: Value.int (q 14) :: Value.long v :: Value.long w :: Value.ref (a 17) :: Value.ref (a 18) :: Value.ref (a 19) :: Value.ref (a 20) :: Value.ref (a 21) :: Value.ref (a 22) :: Value.ref (a 23) :: Value.int (q 24) :: Value.ref (a 25) :: Value.int (q 26) :: Value.ref (a 27) :: Value.int (q 28) :: Value.int (q 29) :: Value.int (q 30) :: Value.int (q 31) :: Value.int (q 32) :: Value.int (q 33) :: Value.ref (a 34) :: Value.ref (a 35) :: Value.ref (a 36) :: Value.ref (a 37) :: Value.ref (a 38) :: Value.ref (a 39) :: Value.ref (a 40) :: Value.int (q 41) :: Value.ref (a 42) :: Value.int (q 43) :: Value.int (q 44) :: []))), ((a 8), .inl (T 0, 24, .inl f8)), ((a 9), .inl (T 0, 24, .inl f9)), ((a 10), .inl (T 0, 24, .inl f10)), ((a 11), .inl (T 0, 24, .inl f11)), ((a 17), .inl (T 0, 24, .inl f17)), ((a 18), .inl (T 0, 24, .inl f18)), ((a 19), .inl (T 0, 24, .inl f19)), ((a 20), .inl (T 1, 672, .inr (.inl f20))), ((a 21), .inl (T 1, 672, .inr (.inl f21))), ((a 22), .inl (T 4, 672, .inl f22))] sz)) 0 0 (va_A [(h0, .inr (10, (Value.int (q 0) :: Value.int (q 1) :: Value.int (q 2) :: Value.int (q 3) :: Value.int (q 4) :: Value.int (q 5) :: Value.int (q 6) :: Value.int (q 7) :: Value.ref (a 8) :: Value.ref (a 9) :: Value.ref (a 10) :: Value.ref (a 11) :: Value.ref (a 12) :: Value.ref (a 13) :: Value.int (q 14) :: Value.long v :: Value.long w :: Value.ref (a 17) :: Value.ref (a 18) :: Value.ref (a 19) :: Value.ref (a 20) :: Value.ref (a 21) :: Value.ref (a 22) :: Value.ref (a 23) :: Value.int (q 24) :: Value.ref (a 25) :: Value.int (q 26) :: Value.ref (a 27) :: Value.int (q 28) :: Value.int (q 29) :: Value.int (q 30) :: Value.int (q 31) :: Value.int (q 32) :: Value.int (q 33) :: Value.ref (a 34) :: Value.ref (a 35) :: Value.ref (a 36) :: Value.ref (a 37) :: Value.ref (a 38) :: Value.ref (a 39) :: Value.ref (a 40) :: Value.int (q 41) :: Value.ref (a 42) :: Value.int (q 43) :: Value.int (q 44) :: []))), ((a 8), .inl (T 0, 24, .inl f8)), ((a 9), .inl (T 0, 24, .inl f9)), ((a 10), .inl (T 0, 24, .inl f10)), ((a 11), .inl (T 0, 24, .inl f11)), ((a 17), .inl (T 0, 24, .inl f17)), ((a 18), .inl (T 0, 24, .inl f18)), ((a 19), .inl (T 0, 24, .inl f19)), ((a 20), .inl (T 1, 672, .inr (.inl f20))), ((a 21), .inl (T 1, 672, .inr (.inl f21))), ((a 22), .inl (T 4, 672, .inl f22))] sz) := by
  refine Met.ofW (cc := cX13_laysWorths) (maxL := 6) (ret := none) (by decide +kernel) rfl ?_
  intro p e s m args below meth c s₁ B hml hv
  obtain ⟨rfl, hsz, hP, hE, hD0⟩ := hv
  have hx := B.exec
  have hb := B.bytes
  have hr := B.returns
  have hts := atoms_spec (ws := wsX13_laysWorths) B.pre
  have hown : s.vm.findClass RX13 = some m.cls := findClass_of_methodNamed B.named
  have hlocks := B.notSynchronized
  subst hsz
  have hD := hD0.self (sz := s.heap.size)
  generalize hAe : va_A [(h0, .inr (10, (Value.int (q 0) :: Value.int (q 1) :: Value.int (q 2) :: Value.int (q 3) :: Value.int (q 4) :: Value.int (q 5) :: Value.int (q 6) :: Value.int (q 7) :: Value.ref (a 8) :: Value.ref (a 9) :: Value.ref (a 10) :: Value.ref (a 11) :: Value.ref (a 12) :: Value.ref (a 13) :: Value.int (q 14) :: Value.long v :: Value.long w :: Value.ref (a 17) :: Value.ref (a 18) :: Value.ref (a 19) :: Value.ref (a 20) :: Value.ref (a 21) :: Value.ref (a 22) :: Value.ref (a 23) :: Value.int (q 24) :: Value.ref (a 25) :: Value.int (q 26) :: Value.ref (a 27) :: Value.int (q 28) :: Value.int (q 29) :: Value.int (q 30) :: Value.int (q 31) :: Value.int (q 32) :: Value.int (q 33) :: Value.ref (a 34) :: Value.ref (a 35) :: Value.ref (a 36) :: Value.ref (a 37) :: Value.ref (a 38) :: Value.ref (a 39) :: Value.ref (a 40) :: Value.int (q 41) :: Value.ref (a 42) :: Value.int (q 43) :: Value.int (q 44) :: []))), ((a 8), .inl (T 0, 24, .inl f8)), ((a 9), .inl (T 0, 24, .inl f9)), ((a 10), .inl (T 0, 24, .inl f10)), ((a 11), .inl (T 0, 24, .inl f11)), ((a 17), .inl (T 0, 24, .inl f17)), ((a 18), .inl (T 0, 24, .inl f18)), ((a 19), .inl (T 0, 24, .inl f19)), ((a 20), .inl (T 1, 672, .inr (.inl f20))), ((a 21), .inl (T 1, 672, .inr (.inl f21))), ((a 22), .inl (T 4, 672, .inl f22))] s.heap.size = A at hD ⊢
  have hA : ∀ q : Nat, s.heap.size ≤ q → A q := fun q h => by rw [← hAe]; exact Or.inr h
  have hS : va_S A s.heap s.heap [] := va_S.rf
  have hP : va_P D vwCl [(h0, .inr (10, (Value.int (q 0) :: Value.int (q 1) :: Value.int (q 2) :: Value.int (q 3) :: Value.int (q 4) :: Value.int (q 5) :: Value.int (q 6) :: Value.int (q 7) :: Value.ref (a 8) :: Value.ref (a 9) :: Value.ref (a 10) :: Value.ref (a 11) :: Value.ref (a 12) :: Value.ref (a 13) :: Value.int (q 14) :: Value.long v :: Value.long w :: Value.ref (a 17) :: Value.ref (a 18) :: Value.ref (a 19) :: Value.ref (a 20) :: Value.ref (a 21) :: Value.ref (a 22) :: Value.ref (a 23) :: Value.int (q 24) :: Value.ref (a 25) :: Value.int (q 26) :: Value.ref (a 27) :: Value.int (q 28) :: Value.int (q 29) :: Value.int (q 30) :: Value.int (q 31) :: Value.int (q 32) :: Value.int (q 33) :: Value.ref (a 34) :: Value.ref (a 35) :: Value.ref (a 36) :: Value.ref (a 37) :: Value.ref (a 38) :: Value.ref (a 39) :: Value.ref (a 40) :: Value.int (q 41) :: Value.ref (a 42) :: Value.int (q 43) :: Value.int (q 44) :: []))), ((a 8), .inl (T 0, 24, .inl f8)), ((a 9), .inl (T 0, 24, .inl f9)), ((a 10), .inl (T 0, 24, .inl f10)), ((a 11), .inl (T 0, 24, .inl f11)), ((a 17), .inl (T 0, 24, .inl f17)), ((a 18), .inl (T 0, 24, .inl f18)), ((a 19), .inl (T 0, 24, .inl f19)), ((a 20), .inl (T 1, 672, .inr (.inl f20))), ((a 21), .inl (T 1, 672, .inr (.inl f21))), ((a 22), .inl (T 4, 672, .inl f22))] s.heap := hP
  have hl := lv_entry ([.ref h0, .int x1]) (n := 6) (Nat.le_of_ble_eq_true rfl)
  rw [lg_entry_eq]
  generalize (lg_sl ([.ref h0, .int x1]) ++ List.replicate (6 - (lg_sl ([.ref h0, .int x1])).length) Slot.unset).toArray = ls at hl ⊢
  have hl : lv_has ls 6 [(0, .ref h0), (1, .int x1)] := hl
  clear hD0
  refine lv_aload_n hx hb dX13_laysWorths_0 rfl (lv_at hl 0 rfl) ?_
  have hFc := va_free (wc := [(h0, .inr (10, (Value.int (q 0) :: Value.int (q 1) :: Value.int (q 2) :: Value.int (q 3) :: Value.int (q 4) :: Value.int (q 5) :: Value.int (q 6) :: Value.int (q 7) :: Value.ref (a 8) :: Value.ref (a 9) :: Value.ref (a 10) :: Value.ref (a 11) :: Value.ref (a 12) :: Value.ref (a 13) :: Value.int (q 14) :: Value.long v :: Value.long w :: Value.ref (a 17) :: Value.ref (a 18) :: Value.ref (a 19) :: Value.ref (a 20) :: Value.ref (a 21) :: Value.ref (a 22) :: Value.ref (a 23) :: Value.int (q 24) :: Value.ref (a 25) :: Value.int (q 26) :: Value.ref (a 27) :: Value.int (q 28) :: Value.int (q 29) :: Value.int (q 30) :: Value.int (q 31) :: Value.int (q 32) :: Value.int (q 33) :: Value.ref (a 34) :: Value.ref (a 35) :: Value.ref (a 36) :: Value.ref (a 37) :: Value.ref (a 38) :: Value.ref (a 39) :: Value.ref (a 40) :: Value.int (q 41) :: Value.ref (a 42) :: Value.int (q 43) :: Value.int (q 44) :: []))), ((a 8), .inl (T 0, 24, .inl f8)), ((a 9), .inl (T 0, 24, .inl f9)), ((a 10), .inl (T 0, 24, .inl f10)), ((a 11), .inl (T 0, 24, .inl f11)), ((a 17), .inl (T 0, 24, .inl f17)), ((a 18), .inl (T 0, 24, .inl f18)), ((a 19), .inl (T 0, 24, .inl f19))]) hD hS hA [0, 1, 2, 3, 4, 5, 6, 7] rfl
  refine va_callv (va_runV (As := []) (rest := []) ⟨hx, hb, hml, hown, hts⟩ (c_X13_laysParts l D T _ h0 q v w a f8 f9 f10 f11 f17 f18 f19 (show 0 ≤ (q 7).toInt ∧ (q 7).toInt ≤ 24 from (by omega)) (show okR f8 f10 f11 from hokR)) (cwV 0 hts gX13_laysWorths_X13_laysParts rfl rfl rfl hv_X13_laysParts ⟨Nat.le_of_ble_eq_true rfl, Nat.le_of_ble_eq_true rfl⟩) (pW_V (q := (RX13, TX13, 45)) (ci := 10) (q0 := 0) hP hE hD rfl rfl [0, 1, 2, 3, 4, 5, 6, 7] (by decide +kernel) rfl rfl) rfl rfl hl.1 rfl (lv_room (Nat.le_of_ble_eq_true rfl)) dX13_laysWorths_1 ⟨Nat.le_of_ble_eq_true rfl, Nat.le_of_ble_eq_true rfl⟩) hS (fun q _ h => hFc q h) hFc (fun u_2 t H1 locs ht hvm hr_1 hB hz1 hk1 hS => ?_)
  obtain ⟨f_3, f_4, f_5⟩ := u_2
  obtain ⟨hi0_r_1, hi1_r_1⟩ := hr_1
  have hEE : okE f8 f10 f_3 (q 7).toInt := hi0_r_1
  have hMEr : ∀ j : Nat, (j : Int) < (q 7).toInt → mesP f8 f9 f10 f11 f_3 f_4 f_5 j := hi1_r_1
  obtain ⟨hP1, hD1⟩ := hB
  rw [ht] at hP1
  obtain ⟨hP, hD⟩ := va_repl [(h0, .inr (10, (Value.int (q 0) :: Value.int (q 1) :: Value.int (q 2) :: Value.int (q 3) :: Value.int (q 4) :: Value.int (q 5) :: Value.int (q 6) :: Value.int (q 7) :: Value.ref (a 8) :: Value.ref (a 9) :: Value.ref (a 10) :: Value.ref (a 11) :: Value.ref (a 12) :: Value.ref (a 13) :: Value.int (q 14) :: Value.long v :: Value.long w :: Value.ref (a 17) :: Value.ref (a 18) :: Value.ref (a 19) :: Value.ref (a 20) :: Value.ref (a 21) :: Value.ref (a 22) :: Value.ref (a 23) :: Value.int (q 24) :: Value.ref (a 25) :: Value.int (q 26) :: Value.ref (a 27) :: Value.int (q 28) :: Value.int (q 29) :: Value.int (q 30) :: Value.int (q 31) :: Value.int (q 32) :: Value.int (q 33) :: Value.ref (a 34) :: Value.ref (a 35) :: Value.ref (a 36) :: Value.ref (a 37) :: Value.ref (a 38) :: Value.ref (a 39) :: Value.ref (a 40) :: Value.int (q 41) :: Value.ref (a 42) :: Value.int (q 43) :: Value.int (q 44) :: []))), ((a 8), .inl (T 0, 24, .inl f8)), ((a 9), .inl (T 0, 24, .inl f9)), ((a 10), .inl (T 0, 24, .inl f10)), ((a 11), .inl (T 0, 24, .inl f11)), ((a 17), .inl (T 0, 24, .inl f_3)), ((a 18), .inl (T 0, 24, .inl f_4)), ((a 19), .inl (T 0, 24, .inl f_5)), ((a 20), .inl (T 1, 672, .inr (.inl f20))), ((a 21), .inl (T 1, 672, .inr (.inl f21))), ((a 22), .inl (T 4, 672, .inl f22))] hP hD [0, 1, 2, 3, 4, 5, 6, 7] [0, 1, 2, 3, 4, 5, 6, 7] rfl (by decide +kernel) rfl rfl rfl hk1 hP1
  clear hP1 hD1 hFc
  generalize H1 = H at hP hS ⊢
  refine lv_iconst (v := 0) hx hb dX13_laysWorths_4 (by decide +kernel) ?_
  refine lv_istore_n (lv' := [(2, .int 0), (0, .ref h0), (1, .int x1)]) hx hb dX13_laysWorths_5 rfl hl (by decide +kernel) rfl (fun ls hl => ?_)
  have hokX : okX f8 f10 f11 f_3 (q 7).toInt := okX_of hokR hEE (by omega)
  refine loopW (σ := (Int32) × (Int32) × (Int64) × (Int64) × (Nat → Int64) × (Nat → Int64) × (Nat → Int32)) (fun x9 ls H locs => lv_has ls 6 [(2, .int x9.1), (0, .ref h0), (1, .int x1)] ∧ va_P D vwCl [(h0, .inr (10, (Value.int (q 0) :: Value.int (q 1) :: Value.int (q 2) :: Value.int (q 3) :: Value.int (q 4) :: Value.int (q 5) :: Value.int (q 6) :: Value.int (q 7) :: Value.ref (a 8) :: Value.ref (a 9) :: Value.ref (a 10) :: Value.ref (a 11) :: Value.ref (a 12) :: Value.ref (a 13) :: Value.int x9.2.1 :: Value.long x9.2.2.1 :: Value.long x9.2.2.2.1 :: Value.ref (a 17) :: Value.ref (a 18) :: Value.ref (a 19) :: Value.ref (a 20) :: Value.ref (a 21) :: Value.ref (a 22) :: Value.ref (a 23) :: Value.int (q 24) :: Value.ref (a 25) :: Value.int (q 26) :: Value.ref (a 27) :: Value.int (q 28) :: Value.int (q 29) :: Value.int (q 30) :: Value.int (q 31) :: Value.int (q 32) :: Value.int (q 33) :: Value.ref (a 34) :: Value.ref (a 35) :: Value.ref (a 36) :: Value.ref (a 37) :: Value.ref (a 38) :: Value.ref (a 39) :: Value.ref (a 40) :: Value.int (q 41) :: Value.ref (a 42) :: Value.int (q 43) :: Value.int (q 44) :: []))), ((a 8), .inl (T 0, 24, .inl f8)), ((a 9), .inl (T 0, 24, .inl f9)), ((a 10), .inl (T 0, 24, .inl f10)), ((a 11), .inl (T 0, 24, .inl f11)), ((a 17), .inl (T 0, 24, .inl f_3)), ((a 18), .inl (T 0, 24, .inl f_4)), ((a 19), .inl (T 0, 24, .inl f_5)), ((a 20), .inl (T 1, 672, .inr (.inl x9.2.2.2.2.1))), ((a 21), .inl (T 1, 672, .inr (.inl x9.2.2.2.2.2.1))), ((a 22), .inl (T 4, 672, .inl x9.2.2.2.2.2.2))] H ∧ va_D A [(h0, .inr (10, (Value.int (q 0) :: Value.int (q 1) :: Value.int (q 2) :: Value.int (q 3) :: Value.int (q 4) :: Value.int (q 5) :: Value.int (q 6) :: Value.int (q 7) :: Value.ref (a 8) :: Value.ref (a 9) :: Value.ref (a 10) :: Value.ref (a 11) :: Value.ref (a 12) :: Value.ref (a 13) :: Value.int x9.2.1 :: Value.long x9.2.2.1 :: Value.long x9.2.2.2.1 :: Value.ref (a 17) :: Value.ref (a 18) :: Value.ref (a 19) :: Value.ref (a 20) :: Value.ref (a 21) :: Value.ref (a 22) :: Value.ref (a 23) :: Value.int (q 24) :: Value.ref (a 25) :: Value.int (q 26) :: Value.ref (a 27) :: Value.int (q 28) :: Value.int (q 29) :: Value.int (q 30) :: Value.int (q 31) :: Value.int (q 32) :: Value.int (q 33) :: Value.ref (a 34) :: Value.ref (a 35) :: Value.ref (a 36) :: Value.ref (a 37) :: Value.ref (a 38) :: Value.ref (a 39) :: Value.ref (a 40) :: Value.int (q 41) :: Value.ref (a 42) :: Value.int (q 43) :: Value.int (q 44) :: []))), ((a 8), .inl (T 0, 24, .inl f8)), ((a 9), .inl (T 0, 24, .inl f9)), ((a 10), .inl (T 0, 24, .inl f10)), ((a 11), .inl (T 0, 24, .inl f11)), ((a 17), .inl (T 0, 24, .inl f_3)), ((a 18), .inl (T 0, 24, .inl f_4)), ((a 19), .inl (T 0, 24, .inl f_5)), ((a 20), .inl (T 1, 672, .inr (.inl x9.2.2.2.2.1))), ((a 21), .inl (T 1, 672, .inr (.inl x9.2.2.2.2.2.1))), ((a 22), .inl (T 4, 672, .inl x9.2.2.2.2.2.2))] ∧ va_S A s.heap H locs ∧ ((0 ≤ x9.1.toInt ∧ x9.1.toInt ≤ x1.toInt + 1) ∧ (∀ j : Nat, isB (x9.2.2.2.2.2.2 j)) ∧ (∀ j : Nat, (j : Int) < 28 * x9.1.toInt → 1 ≤ (x9.2.2.2.2.2.1 j).toInt) ∧ layJ (VALW (lqW (q 0) (q 1) (q 2) (q 3) (q 4) (q 5) (q 6)) f8 f9 f10 f11 f_3) (tabW x9.2.2.2.2.1 x9.2.2.2.2.2.1 x9.2.2.2.2.2.2) x9.1.toInt 6 0)) (fun x9 => (24 - x9.1.toInt).toNat) (fun x9 ls H locs hI iho => ?_) (0, (q 14), v, w, f20, f21, f22) ls ⟨lv_sub hl [0, 1, 2] rfl, hP.sub [0, 1, 2, 3, 4, 5, 6, 7, 8, 9, 10] rfl, hD.sub [0, 1, 2, 3, 4, 5, 6, 7, 8, 9, 10] (by decide +kernel) rfl, hS, ⟨(by (try dsimp only); rw [ti_0]; omega), hZ, (fun j hj => absurd hj (by (try dsimp only); rw [ti_0]; omega)), (by (try dsimp only); rw [ti_0]; exact layJ_0)⟩⟩
  obtain ⟨xx, om, ov, ow, o0, o1, o2⟩ := x9
  obtain ⟨hl, hP, hD, hS, hinv⟩ := hI
  have hl : lv_has ls 6 [(2, .int xx), (0, .ref h0), (1, .int x1)] := hl
  have hP : va_P D vwCl [(h0, .inr (10, (Value.int (q 0) :: Value.int (q 1) :: Value.int (q 2) :: Value.int (q 3) :: Value.int (q 4) :: Value.int (q 5) :: Value.int (q 6) :: Value.int (q 7) :: Value.ref (a 8) :: Value.ref (a 9) :: Value.ref (a 10) :: Value.ref (a 11) :: Value.ref (a 12) :: Value.ref (a 13) :: Value.int om :: Value.long ov :: Value.long ow :: Value.ref (a 17) :: Value.ref (a 18) :: Value.ref (a 19) :: Value.ref (a 20) :: Value.ref (a 21) :: Value.ref (a 22) :: Value.ref (a 23) :: Value.int (q 24) :: Value.ref (a 25) :: Value.int (q 26) :: Value.ref (a 27) :: Value.int (q 28) :: Value.int (q 29) :: Value.int (q 30) :: Value.int (q 31) :: Value.int (q 32) :: Value.int (q 33) :: Value.ref (a 34) :: Value.ref (a 35) :: Value.ref (a 36) :: Value.ref (a 37) :: Value.ref (a 38) :: Value.ref (a 39) :: Value.ref (a 40) :: Value.int (q 41) :: Value.ref (a 42) :: Value.int (q 43) :: Value.int (q 44) :: []))), ((a 8), .inl (T 0, 24, .inl f8)), ((a 9), .inl (T 0, 24, .inl f9)), ((a 10), .inl (T 0, 24, .inl f10)), ((a 11), .inl (T 0, 24, .inl f11)), ((a 17), .inl (T 0, 24, .inl f_3)), ((a 18), .inl (T 0, 24, .inl f_4)), ((a 19), .inl (T 0, 24, .inl f_5)), ((a 20), .inl (T 1, 672, .inr (.inl o0))), ((a 21), .inl (T 1, 672, .inr (.inl o1))), ((a 22), .inl (T 4, 672, .inl o2))] H := hP
  have hD : va_D A [(h0, .inr (10, (Value.int (q 0) :: Value.int (q 1) :: Value.int (q 2) :: Value.int (q 3) :: Value.int (q 4) :: Value.int (q 5) :: Value.int (q 6) :: Value.int (q 7) :: Value.ref (a 8) :: Value.ref (a 9) :: Value.ref (a 10) :: Value.ref (a 11) :: Value.ref (a 12) :: Value.ref (a 13) :: Value.int om :: Value.long ov :: Value.long ow :: Value.ref (a 17) :: Value.ref (a 18) :: Value.ref (a 19) :: Value.ref (a 20) :: Value.ref (a 21) :: Value.ref (a 22) :: Value.ref (a 23) :: Value.int (q 24) :: Value.ref (a 25) :: Value.int (q 26) :: Value.ref (a 27) :: Value.int (q 28) :: Value.int (q 29) :: Value.int (q 30) :: Value.int (q 31) :: Value.int (q 32) :: Value.int (q 33) :: Value.ref (a 34) :: Value.ref (a 35) :: Value.ref (a 36) :: Value.ref (a 37) :: Value.ref (a 38) :: Value.ref (a 39) :: Value.ref (a 40) :: Value.int (q 41) :: Value.ref (a 42) :: Value.int (q 43) :: Value.int (q 44) :: []))), ((a 8), .inl (T 0, 24, .inl f8)), ((a 9), .inl (T 0, 24, .inl f9)), ((a 10), .inl (T 0, 24, .inl f10)), ((a 11), .inl (T 0, 24, .inl f11)), ((a 17), .inl (T 0, 24, .inl f_3)), ((a 18), .inl (T 0, 24, .inl f_4)), ((a 19), .inl (T 0, 24, .inl f_5)), ((a 20), .inl (T 1, 672, .inr (.inl o0))), ((a 21), .inl (T 1, 672, .inr (.inl o1))), ((a 22), .inl (T 4, 672, .inl o2))] := hD
  have hinv : (0 ≤ xx.toInt ∧ xx.toInt ≤ x1.toInt + 1) ∧ (∀ j : Nat, isB (o2 j)) ∧ (∀ j : Nat, (j : Int) < 28 * xx.toInt → 1 ≤ (o1 j).toInt) ∧ layJ (VALW (lqW (q 0) (q 1) (q 2) (q 3) (q 4) (q 5) (q 6)) f8 f9 f10 f11 f_3) (tabW o0 o1 o2) xx.toInt 6 0 := hinv
  obtain ⟨hxx, hZ, hW1, hLJ⟩ := hinv
  refine lv_iload_n hx hb dX13_laysWorths_6 rfl (lv_at hl 0 rfl) ?_
  refine lv_iload_n hx hb dX13_laysWorths_7 rfl (lv_at hl 2 rfl) ?_
  refine lv_icmp_gt (tgt := 141) hx hb dX13_laysWorths_8 (by decide +kernel) (fun c_6 => ?_) (fun c_6 => ?_)
  · rw [fa_lt] at c_6
    refine lv_aload_n hx hb dX13_laysWorths_141 rfl (lv_at hl 1 rfl) ?_
    refine lv_iconst (v := 0) hx hb dX13_laysWorths_142 (by decide +kernel) ?_
    refine va_put (D := D) (ci := 10) (v := .int 0) (ty := .boolean) (C := RX13) (T := TX13) (N := 45) hx hb hts in_X13_laysWorths_X13 tyX13 tyX13_ok nmX13 hown hE.1 hP hD hS 0 rfl rfl 14 (by decide +kernel) (hts (.fieldLink RX13 131 "ClauseBookModel" "isMuch" "Z") (List.mem_of_getElem? (i := 1) rfl)) (fun _ h9 => h9) rfl (by decide +kernel) rfl rfl (Nat.le_of_ble_eq_true rfl) dX13_laysWorths_143 (fun H locs hP hD hS => ?_)
    obtain ⟨hP, hD⟩ := wPD [(h0, .inr (10, (Value.int (q 0) :: Value.int (q 1) :: Value.int (q 2) :: Value.int (q 3) :: Value.int (q 4) :: Value.int (q 5) :: Value.int (q 6) :: Value.int (q 7) :: Value.ref (a 8) :: Value.ref (a 9) :: Value.ref (a 10) :: Value.ref (a 11) :: Value.ref (a 12) :: Value.ref (a 13) :: Value.int 0 :: Value.long ov :: Value.long ow :: Value.ref (a 17) :: Value.ref (a 18) :: Value.ref (a 19) :: Value.ref (a 20) :: Value.ref (a 21) :: Value.ref (a 22) :: Value.ref (a 23) :: Value.int (q 24) :: Value.ref (a 25) :: Value.int (q 26) :: Value.ref (a 27) :: Value.int (q 28) :: Value.int (q 29) :: Value.int (q 30) :: Value.int (q 31) :: Value.int (q 32) :: Value.int (q 33) :: Value.ref (a 34) :: Value.ref (a 35) :: Value.ref (a 36) :: Value.ref (a 37) :: Value.ref (a 38) :: Value.ref (a 39) :: Value.ref (a 40) :: Value.int (q 41) :: Value.ref (a 42) :: Value.int (q 43) :: Value.int (q 44) :: []))), ((a 8), .inl (T 0, 24, .inl f8)), ((a 9), .inl (T 0, 24, .inl f9)), ((a 10), .inl (T 0, 24, .inl f10)), ((a 11), .inl (T 0, 24, .inl f11)), ((a 17), .inl (T 0, 24, .inl f_3)), ((a 18), .inl (T 0, 24, .inl f_4)), ((a 19), .inl (T 0, 24, .inl f_5)), ((a 20), .inl (T 1, 672, .inr (.inl o0))), ((a 21), .inl (T 1, 672, .inr (.inl o1))), ((a 22), .inl (T 4, 672, .inl o2))] hP hD rfl
    exact W.vret hx hb hr (fun t ht hW => ⟨⟨(ov, ow, f_3, f_4, f_5, o0, o1, o2), rfl, ⟨(show ∀ j : Nat, isB (o2 j) from hZ), (show okE f8 f10 f_3 (q 7).toInt from hEE), (show ∀ j : Nat, (j : Int) < 28 * (x1.toInt + 1) → 1 ≤ (o1 j).toInt from (fun j hj => hW1 j (by omega))), (show ∀ y t s : Int32, spK t s → 0 ≤ y.toInt → y.toInt ≤ x1.toInt → tabW o0 o1 o2 y t s = VALW (lqW (q 0) (q 1) (q 2) (q 3) (q 4) (q 5) (q 6)) f8 f9 f10 f11 f_3 y t s from (fun y t s g h0 h1 => layJ_end hLJ g h0 (by omega))), (show ∀ j : Nat, (j : Int) < (q 7).toInt → mesP f8 f9 f10 f11 f_3 f_4 f_5 j from hMEr)⟩, by rw [ht]; exact hP.sub [0, 1, 2, 3, 4, 5, 6, 7, 8, 9, 10] rfl, hD.sub [0, 1, 2, 3, 4, 5, 6, 7, 8, 9, 10] (by decide +kernel) rfl⟩, hS.F ht⟩) hS.2.2 dX13_laysWorths_146
  · rw [fa_lt] at c_6
    refine lv_bipush (v := 6) hx hb dX13_laysWorths_11 (by decide +kernel) ?_
    refine lv_istore_n (lv' := [(3, .int 6), (2, .int xx), (0, .ref h0), (1, .int x1)]) hx hb dX13_laysWorths_13 rfl hl (by decide +kernel) rfl (fun ls hl => ?_)
    refine loopW (σ := (Int32) × (Int32) × (Int64) × (Int64) × (Nat → Int64) × (Nat → Int64) × (Nat → Int32)) (fun x9 ls H locs => lv_has ls 6 [(3, .int x9.1), (2, .int xx), (0, .ref h0), (1, .int x1)] ∧ va_P D vwCl [(h0, .inr (10, (Value.int (q 0) :: Value.int (q 1) :: Value.int (q 2) :: Value.int (q 3) :: Value.int (q 4) :: Value.int (q 5) :: Value.int (q 6) :: Value.int (q 7) :: Value.ref (a 8) :: Value.ref (a 9) :: Value.ref (a 10) :: Value.ref (a 11) :: Value.ref (a 12) :: Value.ref (a 13) :: Value.int x9.2.1 :: Value.long x9.2.2.1 :: Value.long x9.2.2.2.1 :: Value.ref (a 17) :: Value.ref (a 18) :: Value.ref (a 19) :: Value.ref (a 20) :: Value.ref (a 21) :: Value.ref (a 22) :: Value.ref (a 23) :: Value.int (q 24) :: Value.ref (a 25) :: Value.int (q 26) :: Value.ref (a 27) :: Value.int (q 28) :: Value.int (q 29) :: Value.int (q 30) :: Value.int (q 31) :: Value.int (q 32) :: Value.int (q 33) :: Value.ref (a 34) :: Value.ref (a 35) :: Value.ref (a 36) :: Value.ref (a 37) :: Value.ref (a 38) :: Value.ref (a 39) :: Value.ref (a 40) :: Value.int (q 41) :: Value.ref (a 42) :: Value.int (q 43) :: Value.int (q 44) :: []))), ((a 8), .inl (T 0, 24, .inl f8)), ((a 9), .inl (T 0, 24, .inl f9)), ((a 10), .inl (T 0, 24, .inl f10)), ((a 11), .inl (T 0, 24, .inl f11)), ((a 17), .inl (T 0, 24, .inl f_3)), ((a 18), .inl (T 0, 24, .inl f_4)), ((a 19), .inl (T 0, 24, .inl f_5)), ((a 20), .inl (T 1, 672, .inr (.inl x9.2.2.2.2.1))), ((a 21), .inl (T 1, 672, .inr (.inl x9.2.2.2.2.2.1))), ((a 22), .inl (T 4, 672, .inl x9.2.2.2.2.2.2))] H ∧ va_D A [(h0, .inr (10, (Value.int (q 0) :: Value.int (q 1) :: Value.int (q 2) :: Value.int (q 3) :: Value.int (q 4) :: Value.int (q 5) :: Value.int (q 6) :: Value.int (q 7) :: Value.ref (a 8) :: Value.ref (a 9) :: Value.ref (a 10) :: Value.ref (a 11) :: Value.ref (a 12) :: Value.ref (a 13) :: Value.int x9.2.1 :: Value.long x9.2.2.1 :: Value.long x9.2.2.2.1 :: Value.ref (a 17) :: Value.ref (a 18) :: Value.ref (a 19) :: Value.ref (a 20) :: Value.ref (a 21) :: Value.ref (a 22) :: Value.ref (a 23) :: Value.int (q 24) :: Value.ref (a 25) :: Value.int (q 26) :: Value.ref (a 27) :: Value.int (q 28) :: Value.int (q 29) :: Value.int (q 30) :: Value.int (q 31) :: Value.int (q 32) :: Value.int (q 33) :: Value.ref (a 34) :: Value.ref (a 35) :: Value.ref (a 36) :: Value.ref (a 37) :: Value.ref (a 38) :: Value.ref (a 39) :: Value.ref (a 40) :: Value.int (q 41) :: Value.ref (a 42) :: Value.int (q 43) :: Value.int (q 44) :: []))), ((a 8), .inl (T 0, 24, .inl f8)), ((a 9), .inl (T 0, 24, .inl f9)), ((a 10), .inl (T 0, 24, .inl f10)), ((a 11), .inl (T 0, 24, .inl f11)), ((a 17), .inl (T 0, 24, .inl f_3)), ((a 18), .inl (T 0, 24, .inl f_4)), ((a 19), .inl (T 0, 24, .inl f_5)), ((a 20), .inl (T 1, 672, .inr (.inl x9.2.2.2.2.1))), ((a 21), .inl (T 1, 672, .inr (.inl x9.2.2.2.2.2.1))), ((a 22), .inl (T 4, 672, .inl x9.2.2.2.2.2.2))] ∧ va_S A s.heap H locs ∧ ((-1 ≤ x9.1.toInt ∧ x9.1.toInt ≤ 6) ∧ (∀ j : Nat, isB (x9.2.2.2.2.2.2 j)) ∧ wbK x9.2.2.2.2.2.1 xx.toInt x9.1.toInt ∧ layJ (VALW (lqW (q 0) (q 1) (q 2) (q 3) (q 4) (q 5) (q 6)) f8 f9 f10 f11 f_3) (tabW x9.2.2.2.2.1 x9.2.2.2.2.2.1 x9.2.2.2.2.2.2) xx.toInt x9.1.toInt 0)) (fun x9 => (x9.1.toInt + 1).toNat) (fun x9 ls H locs hI ihm => ?_) (6, om, ov, ow, o0, o1, o2) ls ⟨lv_sub hl [0, 1, 2, 3] rfl, hP.sub [0, 1, 2, 3, 4, 5, 6, 7, 8, 9, 10] rfl, hD.sub [0, 1, 2, 3, 4, 5, 6, 7, 8, 9, 10] (by decide +kernel) rfl, hS, ⟨(by (try dsimp only); decide), hZ, (wbK_new hW1), (by (try dsimp only); rw [ti_6]; exact hLJ)⟩⟩
    obtain ⟨dd, pm, pv, pw, p0, p1, p2⟩ := x9
    obtain ⟨hl, hP, hD, hS, hinv⟩ := hI
    have hl : lv_has ls 6 [(3, .int dd), (2, .int xx), (0, .ref h0), (1, .int x1)] := hl
    have hP : va_P D vwCl [(h0, .inr (10, (Value.int (q 0) :: Value.int (q 1) :: Value.int (q 2) :: Value.int (q 3) :: Value.int (q 4) :: Value.int (q 5) :: Value.int (q 6) :: Value.int (q 7) :: Value.ref (a 8) :: Value.ref (a 9) :: Value.ref (a 10) :: Value.ref (a 11) :: Value.ref (a 12) :: Value.ref (a 13) :: Value.int pm :: Value.long pv :: Value.long pw :: Value.ref (a 17) :: Value.ref (a 18) :: Value.ref (a 19) :: Value.ref (a 20) :: Value.ref (a 21) :: Value.ref (a 22) :: Value.ref (a 23) :: Value.int (q 24) :: Value.ref (a 25) :: Value.int (q 26) :: Value.ref (a 27) :: Value.int (q 28) :: Value.int (q 29) :: Value.int (q 30) :: Value.int (q 31) :: Value.int (q 32) :: Value.int (q 33) :: Value.ref (a 34) :: Value.ref (a 35) :: Value.ref (a 36) :: Value.ref (a 37) :: Value.ref (a 38) :: Value.ref (a 39) :: Value.ref (a 40) :: Value.int (q 41) :: Value.ref (a 42) :: Value.int (q 43) :: Value.int (q 44) :: []))), ((a 8), .inl (T 0, 24, .inl f8)), ((a 9), .inl (T 0, 24, .inl f9)), ((a 10), .inl (T 0, 24, .inl f10)), ((a 11), .inl (T 0, 24, .inl f11)), ((a 17), .inl (T 0, 24, .inl f_3)), ((a 18), .inl (T 0, 24, .inl f_4)), ((a 19), .inl (T 0, 24, .inl f_5)), ((a 20), .inl (T 1, 672, .inr (.inl p0))), ((a 21), .inl (T 1, 672, .inr (.inl p1))), ((a 22), .inl (T 4, 672, .inl p2))] H := hP
    have hD : va_D A [(h0, .inr (10, (Value.int (q 0) :: Value.int (q 1) :: Value.int (q 2) :: Value.int (q 3) :: Value.int (q 4) :: Value.int (q 5) :: Value.int (q 6) :: Value.int (q 7) :: Value.ref (a 8) :: Value.ref (a 9) :: Value.ref (a 10) :: Value.ref (a 11) :: Value.ref (a 12) :: Value.ref (a 13) :: Value.int pm :: Value.long pv :: Value.long pw :: Value.ref (a 17) :: Value.ref (a 18) :: Value.ref (a 19) :: Value.ref (a 20) :: Value.ref (a 21) :: Value.ref (a 22) :: Value.ref (a 23) :: Value.int (q 24) :: Value.ref (a 25) :: Value.int (q 26) :: Value.ref (a 27) :: Value.int (q 28) :: Value.int (q 29) :: Value.int (q 30) :: Value.int (q 31) :: Value.int (q 32) :: Value.int (q 33) :: Value.ref (a 34) :: Value.ref (a 35) :: Value.ref (a 36) :: Value.ref (a 37) :: Value.ref (a 38) :: Value.ref (a 39) :: Value.ref (a 40) :: Value.int (q 41) :: Value.ref (a 42) :: Value.int (q 43) :: Value.int (q 44) :: []))), ((a 8), .inl (T 0, 24, .inl f8)), ((a 9), .inl (T 0, 24, .inl f9)), ((a 10), .inl (T 0, 24, .inl f10)), ((a 11), .inl (T 0, 24, .inl f11)), ((a 17), .inl (T 0, 24, .inl f_3)), ((a 18), .inl (T 0, 24, .inl f_4)), ((a 19), .inl (T 0, 24, .inl f_5)), ((a 20), .inl (T 1, 672, .inr (.inl p0))), ((a 21), .inl (T 1, 672, .inr (.inl p1))), ((a 22), .inl (T 4, 672, .inl p2))] := hD
    have hinv : (-1 ≤ dd.toInt ∧ dd.toInt ≤ 6) ∧ (∀ j : Nat, isB (p2 j)) ∧ wbK p1 xx.toInt dd.toInt ∧ layJ (VALW (lqW (q 0) (q 1) (q 2) (q 3) (q 4) (q 5) (q 6)) f8 f9 f10 f11 f_3) (tabW p0 p1 p2) xx.toInt dd.toInt 0 := hinv
    obtain ⟨hdd, hZ, hWB, hLJ⟩ := hinv
    refine lv_iload_n hx hb dX13_laysWorths_14 rfl (lv_at hl 0 rfl) ?_
    refine lv_if_lt (tgt := 135) hx hb dX13_laysWorths_15 (by decide +kernel) (fun c_7 => ?_) (fun c_7 => ?_)
    · rw [fa_lt] at c_7
      try rw [ti_0] at c_7
      have hrow := wbK_row hWB (by omega)
      obtain ⟨z_8, ez_8⟩ : ∃ y : Int32, y = xx + 1 := ⟨_, rfl⟩
      refine lv_iinc (v := z_8) (lv' := [(2, .int z_8), (3, .int dd), (0, .ref h0), (1, .int x1)]) hx hb dX13_laysWorths_135 hl (k := 1) rfl (by rw [ez_8]; rfl) (by decide +kernel) rfl (fun ls hl => ?_)
      have hx9 : z_8.toInt = xx.toInt + 1 := by rw [ez_8]; exact inc1 (n := 1000) (by omega) (by decide +kernel)
      refine lv_goto (tgt := 6) hx hb dX13_laysWorths_138 (by decide +kernel) ?_
      exact iho (z_8, pm, pv, pw, p0, p1, p2) ls _ _ ⟨lv_sub hl [0, 2, 3] rfl, hP.sub [0, 1, 2, 3, 4, 5, 6, 7, 8, 9, 10] rfl, hD.sub [0, 1, 2, 3, 4, 5, 6, 7, 8, 9, 10] (by decide +kernel) rfl, hS, ⟨(by (try dsimp only); rw [hx9]; omega), hZ, (by (try dsimp only); rw [hx9]; exact hrow), (by (try dsimp only); rw [hx9]; exact layJ_cl hLJ (by omega))⟩⟩ (by (try dsimp only); rw [hx9]; omega)
    · rw [fa_lt] at c_7
      try rw [ti_0] at c_7
      refine lv_iconst (v := 0) hx hb dX13_laysWorths_18 (by decide +kernel) ?_
      refine lv_istore (lv' := [(4, .int 0), (3, .int dd), (2, .int xx), (0, .ref h0), (1, .int x1)]) hx hb dX13_laysWorths_19 hl (by decide +kernel) rfl (fun ls hl => ?_)
      refine loopW (σ := (Int32) × (Int32) × (Int64) × (Int64) × (Nat → Int64) × (Nat → Int64) × (Nat → Int32)) (fun x9 ls H locs => lv_has ls 6 [(4, .int x9.1), (3, .int dd), (2, .int xx), (0, .ref h0), (1, .int x1)] ∧ va_P D vwCl [(h0, .inr (10, (Value.int (q 0) :: Value.int (q 1) :: Value.int (q 2) :: Value.int (q 3) :: Value.int (q 4) :: Value.int (q 5) :: Value.int (q 6) :: Value.int (q 7) :: Value.ref (a 8) :: Value.ref (a 9) :: Value.ref (a 10) :: Value.ref (a 11) :: Value.ref (a 12) :: Value.ref (a 13) :: Value.int x9.2.1 :: Value.long x9.2.2.1 :: Value.long x9.2.2.2.1 :: Value.ref (a 17) :: Value.ref (a 18) :: Value.ref (a 19) :: Value.ref (a 20) :: Value.ref (a 21) :: Value.ref (a 22) :: Value.ref (a 23) :: Value.int (q 24) :: Value.ref (a 25) :: Value.int (q 26) :: Value.ref (a 27) :: Value.int (q 28) :: Value.int (q 29) :: Value.int (q 30) :: Value.int (q 31) :: Value.int (q 32) :: Value.int (q 33) :: Value.ref (a 34) :: Value.ref (a 35) :: Value.ref (a 36) :: Value.ref (a 37) :: Value.ref (a 38) :: Value.ref (a 39) :: Value.ref (a 40) :: Value.int (q 41) :: Value.ref (a 42) :: Value.int (q 43) :: Value.int (q 44) :: []))), ((a 8), .inl (T 0, 24, .inl f8)), ((a 9), .inl (T 0, 24, .inl f9)), ((a 10), .inl (T 0, 24, .inl f10)), ((a 11), .inl (T 0, 24, .inl f11)), ((a 17), .inl (T 0, 24, .inl f_3)), ((a 18), .inl (T 0, 24, .inl f_4)), ((a 19), .inl (T 0, 24, .inl f_5)), ((a 20), .inl (T 1, 672, .inr (.inl x9.2.2.2.2.1))), ((a 21), .inl (T 1, 672, .inr (.inl x9.2.2.2.2.2.1))), ((a 22), .inl (T 4, 672, .inl x9.2.2.2.2.2.2))] H ∧ va_D A [(h0, .inr (10, (Value.int (q 0) :: Value.int (q 1) :: Value.int (q 2) :: Value.int (q 3) :: Value.int (q 4) :: Value.int (q 5) :: Value.int (q 6) :: Value.int (q 7) :: Value.ref (a 8) :: Value.ref (a 9) :: Value.ref (a 10) :: Value.ref (a 11) :: Value.ref (a 12) :: Value.ref (a 13) :: Value.int x9.2.1 :: Value.long x9.2.2.1 :: Value.long x9.2.2.2.1 :: Value.ref (a 17) :: Value.ref (a 18) :: Value.ref (a 19) :: Value.ref (a 20) :: Value.ref (a 21) :: Value.ref (a 22) :: Value.ref (a 23) :: Value.int (q 24) :: Value.ref (a 25) :: Value.int (q 26) :: Value.ref (a 27) :: Value.int (q 28) :: Value.int (q 29) :: Value.int (q 30) :: Value.int (q 31) :: Value.int (q 32) :: Value.int (q 33) :: Value.ref (a 34) :: Value.ref (a 35) :: Value.ref (a 36) :: Value.ref (a 37) :: Value.ref (a 38) :: Value.ref (a 39) :: Value.ref (a 40) :: Value.int (q 41) :: Value.ref (a 42) :: Value.int (q 43) :: Value.int (q 44) :: []))), ((a 8), .inl (T 0, 24, .inl f8)), ((a 9), .inl (T 0, 24, .inl f9)), ((a 10), .inl (T 0, 24, .inl f10)), ((a 11), .inl (T 0, 24, .inl f11)), ((a 17), .inl (T 0, 24, .inl f_3)), ((a 18), .inl (T 0, 24, .inl f_4)), ((a 19), .inl (T 0, 24, .inl f_5)), ((a 20), .inl (T 1, 672, .inr (.inl x9.2.2.2.2.1))), ((a 21), .inl (T 1, 672, .inr (.inl x9.2.2.2.2.2.1))), ((a 22), .inl (T 4, 672, .inl x9.2.2.2.2.2.2))] ∧ va_S A s.heap H locs ∧ ((0 ≤ x9.1.toInt ∧ x9.1.toInt ≤ dd.toInt + 1) ∧ (∀ j : Nat, isB (x9.2.2.2.2.2.2 j)) ∧ wbS x9.2.2.2.2.2.1 xx.toInt dd.toInt x9.1.toInt ∧ layJ (VALW (lqW (q 0) (q 1) (q 2) (q 3) (q 4) (q 5) (q 6)) f8 f9 f10 f11 f_3) (tabW x9.2.2.2.2.1 x9.2.2.2.2.2.1 x9.2.2.2.2.2.2) xx.toInt dd.toInt x9.1.toInt)) (fun x9 => (8 - x9.1.toInt).toNat) (fun x9 ls H locs hI ih => ?_) (0, pm, pv, pw, p0, p1, p2) ls ⟨lv_sub hl [0, 1, 2, 3, 4] rfl, hP.sub [0, 1, 2, 3, 4, 5, 6, 7, 8, 9, 10] rfl, hD.sub [0, 1, 2, 3, 4, 5, 6, 7, 8, 9, 10] (by decide +kernel) rfl, hS, ⟨(by (try dsimp only); rw [ti_0]; omega), hZ, (by (try dsimp only); rw [ti_0]; exact wbS_new hWB), (by (try dsimp only); rw [ti_0]; exact hLJ)⟩⟩
      obtain ⟨ss, ym, yv, yw, y0, y1, y2⟩ := x9
      obtain ⟨hl, hP, hD, hS, hinv⟩ := hI
      have hl : lv_has ls 6 [(4, .int ss), (3, .int dd), (2, .int xx), (0, .ref h0), (1, .int x1)] := hl
      have hP : va_P D vwCl [(h0, .inr (10, (Value.int (q 0) :: Value.int (q 1) :: Value.int (q 2) :: Value.int (q 3) :: Value.int (q 4) :: Value.int (q 5) :: Value.int (q 6) :: Value.int (q 7) :: Value.ref (a 8) :: Value.ref (a 9) :: Value.ref (a 10) :: Value.ref (a 11) :: Value.ref (a 12) :: Value.ref (a 13) :: Value.int ym :: Value.long yv :: Value.long yw :: Value.ref (a 17) :: Value.ref (a 18) :: Value.ref (a 19) :: Value.ref (a 20) :: Value.ref (a 21) :: Value.ref (a 22) :: Value.ref (a 23) :: Value.int (q 24) :: Value.ref (a 25) :: Value.int (q 26) :: Value.ref (a 27) :: Value.int (q 28) :: Value.int (q 29) :: Value.int (q 30) :: Value.int (q 31) :: Value.int (q 32) :: Value.int (q 33) :: Value.ref (a 34) :: Value.ref (a 35) :: Value.ref (a 36) :: Value.ref (a 37) :: Value.ref (a 38) :: Value.ref (a 39) :: Value.ref (a 40) :: Value.int (q 41) :: Value.ref (a 42) :: Value.int (q 43) :: Value.int (q 44) :: []))), ((a 8), .inl (T 0, 24, .inl f8)), ((a 9), .inl (T 0, 24, .inl f9)), ((a 10), .inl (T 0, 24, .inl f10)), ((a 11), .inl (T 0, 24, .inl f11)), ((a 17), .inl (T 0, 24, .inl f_3)), ((a 18), .inl (T 0, 24, .inl f_4)), ((a 19), .inl (T 0, 24, .inl f_5)), ((a 20), .inl (T 1, 672, .inr (.inl y0))), ((a 21), .inl (T 1, 672, .inr (.inl y1))), ((a 22), .inl (T 4, 672, .inl y2))] H := hP
      have hD : va_D A [(h0, .inr (10, (Value.int (q 0) :: Value.int (q 1) :: Value.int (q 2) :: Value.int (q 3) :: Value.int (q 4) :: Value.int (q 5) :: Value.int (q 6) :: Value.int (q 7) :: Value.ref (a 8) :: Value.ref (a 9) :: Value.ref (a 10) :: Value.ref (a 11) :: Value.ref (a 12) :: Value.ref (a 13) :: Value.int ym :: Value.long yv :: Value.long yw :: Value.ref (a 17) :: Value.ref (a 18) :: Value.ref (a 19) :: Value.ref (a 20) :: Value.ref (a 21) :: Value.ref (a 22) :: Value.ref (a 23) :: Value.int (q 24) :: Value.ref (a 25) :: Value.int (q 26) :: Value.ref (a 27) :: Value.int (q 28) :: Value.int (q 29) :: Value.int (q 30) :: Value.int (q 31) :: Value.int (q 32) :: Value.int (q 33) :: Value.ref (a 34) :: Value.ref (a 35) :: Value.ref (a 36) :: Value.ref (a 37) :: Value.ref (a 38) :: Value.ref (a 39) :: Value.ref (a 40) :: Value.int (q 41) :: Value.ref (a 42) :: Value.int (q 43) :: Value.int (q 44) :: []))), ((a 8), .inl (T 0, 24, .inl f8)), ((a 9), .inl (T 0, 24, .inl f9)), ((a 10), .inl (T 0, 24, .inl f10)), ((a 11), .inl (T 0, 24, .inl f11)), ((a 17), .inl (T 0, 24, .inl f_3)), ((a 18), .inl (T 0, 24, .inl f_4)), ((a 19), .inl (T 0, 24, .inl f_5)), ((a 20), .inl (T 1, 672, .inr (.inl y0))), ((a 21), .inl (T 1, 672, .inr (.inl y1))), ((a 22), .inl (T 4, 672, .inl y2))] := hD
      have hinv : (0 ≤ ss.toInt ∧ ss.toInt ≤ dd.toInt + 1) ∧ (∀ j : Nat, isB (y2 j)) ∧ wbS y1 xx.toInt dd.toInt ss.toInt ∧ layJ (VALW (lqW (q 0) (q 1) (q 2) (q 3) (q 4) (q 5) (q 6)) f8 f9 f10 f11 f_3) (tabW y0 y1 y2) xx.toInt dd.toInt ss.toInt := hinv
      obtain ⟨hss, hZ, hWS, hLJ⟩ := hinv
      have h0t := ti_0
      refine lv_iload hx hb dX13_laysWorths_21 (lv_at hl 0 rfl) ?_
      refine lv_iload_n hx hb dX13_laysWorths_23 rfl (lv_at hl 1 rfl) ?_
      refine lv_icmp_gt (tgt := 129) hx hb dX13_laysWorths_24 (by decide +kernel) (fun c_9 => ?_) (fun c_9 => ?_)
      · rw [fa_lt] at c_9
        obtain ⟨z_10, ez_10⟩ : ∃ y : Int32, y = dd + (-1) := ⟨_, rfl⟩
        refine lv_iinc (v := z_10) (lv' := [(3, .int z_10), (4, .int ss), (2, .int xx), (0, .ref h0), (1, .int x1)]) hx hb dX13_laysWorths_129 hl (k := 1) rfl (by rw [ez_10]; rfl) (by decide +kernel) rfl (fun ls hl => ?_)
        have hd9 : z_10.toInt = dd.toInt - 1 := by rw [ez_10, fb_addI (by rw [ti_n1]; omega) (by rw [ti_n1]; omega), ti_n1]; omega
        refine lv_goto (tgt := 14) hx hb dX13_laysWorths_132 (by decide +kernel) ?_
        exact ihm (z_10, ym, yv, yw, y0, y1, y2) ls _ _ ⟨lv_sub hl [0, 2, 3, 4] rfl, hP.sub [0, 1, 2, 3, 4, 5, 6, 7, 8, 9, 10] rfl, hD.sub [0, 1, 2, 3, 4, 5, 6, 7, 8, 9, 10] (by decide +kernel) rfl, hS, ⟨(by (try dsimp only); rw [hd9]; omega), hZ, (by (try dsimp only); rw [hd9]; exact wbS_day hWS (by omega) (by omega)), (by (try dsimp only); rw [hd9]; exact layJ_row hLJ (by omega))⟩⟩ (by (try dsimp only); rw [hd9]; omega)
      · rw [fa_lt] at c_9
        refine lv_aload_n hx hb dX13_laysWorths_27 rfl (lv_at hl 3 rfl) ?_
        refine lv_iconst (v := 0) hx hb dX13_laysWorths_28 (by decide +kernel) ?_
        refine va_put (D := D) (ci := 10) (v := .int 0) (ty := .boolean) (C := RX13) (T := TX13) (N := 45) hx hb hts in_X13_laysWorths_X13 tyX13 tyX13_ok nmX13 hown hE.1 hP hD hS 0 rfl rfl 14 (by decide +kernel) (hts (.fieldLink RX13 131 "ClauseBookModel" "isMuch" "Z") (List.mem_of_getElem? (i := 1) rfl)) (fun _ h9 => h9) rfl (by decide +kernel) rfl rfl (Nat.le_of_ble_eq_true rfl) dX13_laysWorths_29 (fun H locs hP hD hS => ?_)
        obtain ⟨hP, hD⟩ := wPD [(h0, .inr (10, (Value.int (q 0) :: Value.int (q 1) :: Value.int (q 2) :: Value.int (q 3) :: Value.int (q 4) :: Value.int (q 5) :: Value.int (q 6) :: Value.int (q 7) :: Value.ref (a 8) :: Value.ref (a 9) :: Value.ref (a 10) :: Value.ref (a 11) :: Value.ref (a 12) :: Value.ref (a 13) :: Value.int 0 :: Value.long yv :: Value.long yw :: Value.ref (a 17) :: Value.ref (a 18) :: Value.ref (a 19) :: Value.ref (a 20) :: Value.ref (a 21) :: Value.ref (a 22) :: Value.ref (a 23) :: Value.int (q 24) :: Value.ref (a 25) :: Value.int (q 26) :: Value.ref (a 27) :: Value.int (q 28) :: Value.int (q 29) :: Value.int (q 30) :: Value.int (q 31) :: Value.int (q 32) :: Value.int (q 33) :: Value.ref (a 34) :: Value.ref (a 35) :: Value.ref (a 36) :: Value.ref (a 37) :: Value.ref (a 38) :: Value.ref (a 39) :: Value.ref (a 40) :: Value.int (q 41) :: Value.ref (a 42) :: Value.int (q 43) :: Value.int (q 44) :: []))), ((a 8), .inl (T 0, 24, .inl f8)), ((a 9), .inl (T 0, 24, .inl f9)), ((a 10), .inl (T 0, 24, .inl f10)), ((a 11), .inl (T 0, 24, .inl f11)), ((a 17), .inl (T 0, 24, .inl f_3)), ((a 18), .inl (T 0, 24, .inl f_4)), ((a 19), .inl (T 0, 24, .inl f_5)), ((a 20), .inl (T 1, 672, .inr (.inl y0))), ((a 21), .inl (T 1, 672, .inr (.inl y1))), ((a 22), .inl (T 4, 672, .inl y2))] hP hD rfl
        refine lv_iload_n hx hb dX13_laysWorths_32 rfl (lv_at hl 1 rfl) ?_
        refine lv_aload_n hx hb dX13_laysWorths_33 rfl (lv_at hl 3 rfl) ?_
        refine va_get (D := D) (ci := 10) (v := .ref (a 17)) (C := RX13) (T := TX13) (N := 45) hx hb hts in_X13_laysWorths_X13 hown hE.1 hP 0 rfl rfl 17 (by decide +kernel) (hts (.fieldLink RX13 47 "ClauseBookModel" "end" "[I") (List.mem_of_getElem? (i := 2) rfl)) (fun _ h9 => h9) rfl dX13_laysWorths_34 ?_
        refine lv_iload_n hx hb dX13_laysWorths_37 rfl (lv_at hl 2 rfl) ?_
        refine va_iald hx hb hE.1 hP 5 0 rfl rfl (by rw [vp_in_iff]; first | omega | (subst_vars; omega)) dX13_laysWorths_38 ?_
        refine lv_topi (fun z_11 ez_11 => ?_)
        have hzz_11 : z_11.toInt = (f_3 (xx.toNatClampNeg)).toInt := by rw [ez_11]
        have hEx := hEE (xx.toNatClampNeg) (by have h9 := tn (x := xx) (by omega); omega)
        refine lv_icmp_le (tgt := 51) hx hb dX13_laysWorths_39 (by decide +kernel) (fun c_12 => ?_) (fun c_12 => ?_)
        · rw [fa_le] at c_12
          have hLw9 : lowS (tabW y0 y1 y2) xx dd ss := lay_low (l := (lqW (q 0) (q 1) (q 2) (q 3) (q 4) (q 5) (q 6))) hL hLJ (by omega) ⟨⟨(by omega), (by omega)⟩, (by omega), (by omega)⟩
          refine lv_aload_n hx hb dX13_laysWorths_51 rfl (lv_at hl 3 rfl) ?_
          refine lv_iload_n hx hb dX13_laysWorths_52 rfl (lv_at hl 2 rfl) ?_
          refine lv_iload_n hx hb dX13_laysWorths_53 rfl (lv_at hl 1 rfl) ?_
          refine lv_iload hx hb dX13_laysWorths_54 (lv_at hl 0 rfl) ?_
          have hFc := va_free (wc := [(h0, .inr (10, (Value.int (q 0) :: Value.int (q 1) :: Value.int (q 2) :: Value.int (q 3) :: Value.int (q 4) :: Value.int (q 5) :: Value.int (q 6) :: Value.int (q 7) :: Value.ref (a 8) :: Value.ref (a 9) :: Value.ref (a 10) :: Value.ref (a 11) :: Value.ref (a 12) :: Value.ref (a 13) :: Value.int 0 :: Value.long yv :: Value.long yw :: Value.ref (a 17) :: Value.ref (a 18) :: Value.ref (a 19) :: Value.ref (a 20) :: Value.ref (a 21) :: Value.ref (a 22) :: Value.ref (a 23) :: Value.int (q 24) :: Value.ref (a 25) :: Value.int (q 26) :: Value.ref (a 27) :: Value.int (q 28) :: Value.int (q 29) :: Value.int (q 30) :: Value.int (q 31) :: Value.int (q 32) :: Value.int (q 33) :: Value.ref (a 34) :: Value.ref (a 35) :: Value.ref (a 36) :: Value.ref (a 37) :: Value.ref (a 38) :: Value.ref (a 39) :: Value.ref (a 40) :: Value.int (q 41) :: Value.ref (a 42) :: Value.int (q 43) :: Value.int (q 44) :: []))), ((a 8), .inl (T 0, 24, .inl f8)), ((a 9), .inl (T 0, 24, .inl f9)), ((a 10), .inl (T 0, 24, .inl f10)), ((a 11), .inl (T 0, 24, .inl f11)), ((a 17), .inl (T 0, 24, .inl f_3)), ((a 20), .inl (T 1, 672, .inr (.inl y0))), ((a 21), .inl (T 1, 672, .inr (.inl y1))), ((a 22), .inl (T 4, 672, .inl y2))]) hD hS hA [0, 1, 2, 3, 4, 5, 8, 9, 10] rfl
          refine va_callv (va_runV (As := [.int xx, .int dd, .int ss]) (rest := []) ⟨hx, hb, hml, hown, hts⟩ (c_X13_lays l D T _ h0 (fun k => cond (Nat.beq k 14) 0 (q k)) yv yw a f8 f9 f10 f11 f_3 y0 y1 y2 xx dd ss (show isB (0 : Int32) from isB0) (show ((0 : Int32) : Int32).toInt = 0 from (by decide +kernel)) (show ∀ j : Nat, isB (y2 j) from hZ) (show (1 ≤ (q 4).toInt ∧ (q 4).toInt ≤ 9) ∧ 1 ≤ (q 6).toInt ∧ (q 6).toInt ≤ 9 from (by omega)) (show okR f8 f10 f11 from hokR) (show 0 ≤ xx.toInt ∧ xx.toInt < 24 from (by omega)) (show 0 ≤ dd.toInt ∧ dd.toInt ≤ 6 from (by omega)) (show 0 ≤ ss.toInt ∧ ss.toInt ≤ dd.toInt from (by omega)) (show wbK y1 xx.toInt dd.toInt from hWS.1) (show dd.toInt ≤ (f_3 (xx.toNatClampNeg)).toInt from (by omega)) (show (f_3 (xx.toNatClampNeg)).toInt ≤ 6 ∧ ((f8 (xx.toNatClampNeg)).toInt = 10 ∨ (f8 (xx.toNatClampNeg)).toInt = 11 → (f_3 (xx.toNatClampNeg)).toInt = (f_3 ((f10 (xx.toNatClampNeg)).toNatClampNeg)).toInt) from hEx) (show lowS (tabW y0 y1 y2) xx dd ss from hLw9)) (cwV 3 hts gX13_laysWorths_X13_lays rfl rfl rfl hv_X13_lays ⟨Nat.le_of_ble_eq_true rfl, Nat.le_of_ble_eq_true rfl⟩) (pW_V (q := (RX13, TX13, 45)) (ci := 10) (q0 := 0) hP hE hD rfl rfl [0, 1, 2, 3, 4, 5, 8, 9, 10] (by decide +kernel) rfl rfl) rfl rfl hl.1 rfl (lv_room (Nat.le_of_ble_eq_true rfl)) dX13_laysWorths_56 ⟨Nat.le_of_ble_eq_true rfl, Nat.le_of_ble_eq_true rfl⟩) hS (fun q _ h => hFc q h) hFc (fun u_14 t H1 locs ht hvm hr_13 hB hz1 hk1 hS => ?_)
          obtain ⟨n_15, l_16, l_17⟩ := u_14
          obtain ⟨hi0_r_13, hi1_r_13, hi2_r_13⟩ := hr_13
          have hB14_r_13 : isB n_15 := hi0_r_13
          have hj1_r_13 : 1 ≤ l_17.toInt := hi1_r_13
          have hj2_r_13 : mpW n_15 l_16 l_17 = stepW (lqW (q 0) (q 1) (q 2) (q 3) (q 4) (q 5) (q 6)) f8 f9 f10 f11 f_3 (tabW y0 y1 y2) xx dd ss := hi2_r_13
          obtain ⟨hP1, hD1⟩ := hB
          rw [ht] at hP1
          obtain ⟨hP, hD⟩ := va_repl [(h0, .inr (10, (Value.int (q 0) :: Value.int (q 1) :: Value.int (q 2) :: Value.int (q 3) :: Value.int (q 4) :: Value.int (q 5) :: Value.int (q 6) :: Value.int (q 7) :: Value.ref (a 8) :: Value.ref (a 9) :: Value.ref (a 10) :: Value.ref (a 11) :: Value.ref (a 12) :: Value.ref (a 13) :: Value.int n_15 :: Value.long l_16 :: Value.long l_17 :: Value.ref (a 17) :: Value.ref (a 18) :: Value.ref (a 19) :: Value.ref (a 20) :: Value.ref (a 21) :: Value.ref (a 22) :: Value.ref (a 23) :: Value.int (q 24) :: Value.ref (a 25) :: Value.int (q 26) :: Value.ref (a 27) :: Value.int (q 28) :: Value.int (q 29) :: Value.int (q 30) :: Value.int (q 31) :: Value.int (q 32) :: Value.int (q 33) :: Value.ref (a 34) :: Value.ref (a 35) :: Value.ref (a 36) :: Value.ref (a 37) :: Value.ref (a 38) :: Value.ref (a 39) :: Value.ref (a 40) :: Value.int (q 41) :: Value.ref (a 42) :: Value.int (q 43) :: Value.int (q 44) :: []))), ((a 8), .inl (T 0, 24, .inl f8)), ((a 9), .inl (T 0, 24, .inl f9)), ((a 10), .inl (T 0, 24, .inl f10)), ((a 11), .inl (T 0, 24, .inl f11)), ((a 17), .inl (T 0, 24, .inl f_3)), ((a 18), .inl (T 0, 24, .inl f_4)), ((a 19), .inl (T 0, 24, .inl f_5)), ((a 20), .inl (T 1, 672, .inr (.inl y0))), ((a 21), .inl (T 1, 672, .inr (.inl y1))), ((a 22), .inl (T 4, 672, .inl y2))] hP hD [0, 1, 2, 3, 4, 5, 8, 9, 10] [0, 1, 2, 3, 4, 5, 8, 9, 10] rfl (by decide +kernel) rfl rfl rfl hk1 hP1
          clear hP1 hD1 hFc
          generalize H1 = H at hP hS ⊢
          have hmp9 : mpW (n_15 : Int32) l_16 l_17 = (VALW (lqW (q 0) (q 1) (q 2) (q 3) (q 4) (q 5) (q 6)) f8 f9 f10 f11 f_3) xx dd ss := (show mpW (n_15 : Int32) l_16 l_17 = stepW (lqW (q 0) (q 1) (q 2) (q 3) (q 4) (q 5) (q 6)) f8 f9 f10 f11 f_3 (tabW y0 y1 y2) xx dd ss from hj2_r_13).trans (lay_val hokX (by omega) hLJ (by omega) ⟨⟨(by omega), (by omega)⟩, (by omega), (by omega)⟩)
          refine lv_iload_n hx hb dX13_laysWorths_59 rfl (lv_at hl 2 rfl) ?_
          refine lv_iload_n hx hb dX13_laysWorths_60 rfl (lv_at hl 1 rfl) ?_
          refine lv_iload hx hb dX13_laysWorths_61 (lv_at hl 0 rfl) ?_
          refine vp_callSi (W.runS (As := [.int xx, .int dd, .int ss]) (rest := []) ⟨hx, hb, hml, hown, hts⟩ (c_X13_at l D T xx dd ss (by (try simp only [ti_0]); omega) (by (try simp only [ti_0]); omega) (by (try simp only [ti_0]); omega)) (va_cwS 3 hts gX13_laysWorths_X13_at rfl rfl rfl hs_X13_at ⟨Nat.le_of_ble_eq_true rfl, Nat.le_of_ble_eq_true rfl⟩) (pR_S hP hE [] rfl) rfl rfl hl.1 rfl (lv_room (Nat.le_of_ble_eq_true rfl)) dX13_laysWorths_63 ⟨Nat.le_of_ble_eq_true rfl, Nat.le_of_ble_eq_true rfl⟩) (fun r_18 hr_18 => ?_)
          have hsl9 : r_18.toNatClampNeg = slN xx dd ss := at_sl (by omega) (by omega) (by omega) hr_18.1
          refine lv_istore (lv' := [(5, .int r_18), (4, .int ss), (3, .int dd), (2, .int xx), (0, .ref h0), (1, .int x1)]) hx hb dX13_laysWorths_66 hl (by decide +kernel) rfl (fun ls hl => ?_)
          refine lv_aload_n hx hb dX13_laysWorths_68 rfl (lv_at hl 4 rfl) ?_
          refine va_get (D := D) (ci := 10) (v := .ref (a 22)) (C := RX13) (T := TX13) (N := 45) hx hb hts in_X13_laysWorths_X13 hown hE.1 hP 0 rfl rfl 22 (by decide +kernel) (hts (.fieldLink RX13 63 "ClauseBookModel" "worthMuch" "[Z") (List.mem_of_getElem? (i := 3) rfl)) (fun _ h9 => h9) rfl dX13_laysWorths_69 ?_
          refine lv_iload hx hb dX13_laysWorths_72 (lv_at hl 0 rfl) ?_
          refine lv_aload_n hx hb dX13_laysWorths_74 rfl (lv_at hl 4 rfl) ?_
          refine va_get (D := D) (ci := 10) (v := .int n_15) (C := RX13) (T := TX13) (N := 45) hx hb hts in_X13_laysWorths_X13 hown hE.1 hP 0 rfl rfl 14 (by decide +kernel) (hts (.fieldLink RX13 131 "ClauseBookModel" "isMuch" "Z") (List.mem_of_getElem? (i := 1) rfl)) (fun _ h9 => h9) rfl dX13_laysWorths_75 ?_
          refine va_zast hx hb hE.1 hP hD hS 10 4 rfl rfl (by rw [vp_in_iff]; first | omega | (subst_vars; omega)) dX13_laysWorths_78 (fun H locs hP hD hS => ?_)
          obtain ⟨hP, hD⟩ := wPD [(h0, .inr (10, (Value.int (q 0) :: Value.int (q 1) :: Value.int (q 2) :: Value.int (q 3) :: Value.int (q 4) :: Value.int (q 5) :: Value.int (q 6) :: Value.int (q 7) :: Value.ref (a 8) :: Value.ref (a 9) :: Value.ref (a 10) :: Value.ref (a 11) :: Value.ref (a 12) :: Value.ref (a 13) :: Value.int n_15 :: Value.long l_16 :: Value.long l_17 :: Value.ref (a 17) :: Value.ref (a 18) :: Value.ref (a 19) :: Value.ref (a 20) :: Value.ref (a 21) :: Value.ref (a 22) :: Value.ref (a 23) :: Value.int (q 24) :: Value.ref (a 25) :: Value.int (q 26) :: Value.ref (a 27) :: Value.int (q 28) :: Value.int (q 29) :: Value.int (q 30) :: Value.int (q 31) :: Value.int (q 32) :: Value.int (q 33) :: Value.ref (a 34) :: Value.ref (a 35) :: Value.ref (a 36) :: Value.ref (a 37) :: Value.ref (a 38) :: Value.ref (a 39) :: Value.ref (a 40) :: Value.int (q 41) :: Value.ref (a 42) :: Value.int (q 43) :: Value.int (q 44) :: []))), ((a 8), .inl (T 0, 24, .inl f8)), ((a 9), .inl (T 0, 24, .inl f9)), ((a 10), .inl (T 0, 24, .inl f10)), ((a 11), .inl (T 0, 24, .inl f11)), ((a 17), .inl (T 0, 24, .inl f_3)), ((a 18), .inl (T 0, 24, .inl f_4)), ((a 19), .inl (T 0, 24, .inl f_5)), ((a 20), .inl (T 1, 672, .inr (.inl y0))), ((a 21), .inl (T 1, 672, .inr (.inl y1))), ((a 22), .inl (T 4, 672, .inl (upd y2 (r_18.toNatClampNeg) (vp_nar .boolean n_15))))] hP hD rfl
          have hZ : ∀ j : Nat, isB ((upd y2 (r_18.toNatClampNeg) (vp_nar .boolean n_15)) j) := isB_up hZ (isB.n hB14_r_13).1
          refine lv_aload_n hx hb dX13_laysWorths_79 rfl (lv_at hl 4 rfl) ?_
          refine va_get (D := D) (ci := 10) (v := .ref (a 20)) (C := RX13) (T := TX13) (N := 45) hx hb hts in_X13_laysWorths_X13 hown hE.1 hP 0 rfl rfl 20 (by decide +kernel) (hts (.fieldLink RX13 56 "ClauseBookModel" "worthAbove" "[J") (List.mem_of_getElem? (i := 4) rfl)) (fun _ h9 => h9) rfl dX13_laysWorths_80 ?_
          refine lv_iload hx hb dX13_laysWorths_83 (lv_at hl 0 rfl) ?_
          refine lv_aload_n hx hb dX13_laysWorths_85 rfl (lv_at hl 4 rfl) ?_
          refine va_get (D := D) (ci := 10) (v := .int n_15) (C := RX13) (T := TX13) (N := 45) hx hb hts in_X13_laysWorths_X13 hown hE.1 hP 0 rfl rfl 14 (by decide +kernel) (hts (.fieldLink RX13 131 "ClauseBookModel" "isMuch" "Z") (List.mem_of_getElem? (i := 1) rfl)) (fun _ h9 => h9) rfl dX13_laysWorths_86 ?_
          refine lv_if_eq (tgt := 96) hx hb dX13_laysWorths_89 (by decide +kernel) (fun c_19 => ?_) (fun c_19 => ?_)
          · rw [fa_eq] at c_19
            try rw [ti_0] at c_19
            refine lv_aload_n hx hb dX13_laysWorths_96 rfl (lv_at hl 4 rfl) ?_
            refine va_get (D := D) (ci := 10) (v := .long l_16) (C := RX13) (T := TX13) (N := 45) hx hb hts in_X13_laysWorths_X13 hown hE.1 hP 0 rfl rfl 15 (by decide +kernel) (hts (.fieldLink RX13 145 "ClauseBookModel" "above" "J") (List.mem_of_getElem? (i := 5) rfl)) (fun _ h9 => h9) rfl dX13_laysWorths_97 ?_
            refine va_last hx hb hE.1 hP hD hS 8 1 rfl rfl (by rw [vp_in_iff]; first | omega | (subst_vars; omega)) dX13_laysWorths_100 (fun H locs hP hD hS => ?_)
            obtain ⟨hP, hD⟩ := wPD [(h0, .inr (10, (Value.int (q 0) :: Value.int (q 1) :: Value.int (q 2) :: Value.int (q 3) :: Value.int (q 4) :: Value.int (q 5) :: Value.int (q 6) :: Value.int (q 7) :: Value.ref (a 8) :: Value.ref (a 9) :: Value.ref (a 10) :: Value.ref (a 11) :: Value.ref (a 12) :: Value.ref (a 13) :: Value.int n_15 :: Value.long l_16 :: Value.long l_17 :: Value.ref (a 17) :: Value.ref (a 18) :: Value.ref (a 19) :: Value.ref (a 20) :: Value.ref (a 21) :: Value.ref (a 22) :: Value.ref (a 23) :: Value.int (q 24) :: Value.ref (a 25) :: Value.int (q 26) :: Value.ref (a 27) :: Value.int (q 28) :: Value.int (q 29) :: Value.int (q 30) :: Value.int (q 31) :: Value.int (q 32) :: Value.int (q 33) :: Value.ref (a 34) :: Value.ref (a 35) :: Value.ref (a 36) :: Value.ref (a 37) :: Value.ref (a 38) :: Value.ref (a 39) :: Value.ref (a 40) :: Value.int (q 41) :: Value.ref (a 42) :: Value.int (q 43) :: Value.int (q 44) :: []))), ((a 8), .inl (T 0, 24, .inl f8)), ((a 9), .inl (T 0, 24, .inl f9)), ((a 10), .inl (T 0, 24, .inl f10)), ((a 11), .inl (T 0, 24, .inl f11)), ((a 17), .inl (T 0, 24, .inl f_3)), ((a 18), .inl (T 0, 24, .inl f_4)), ((a 19), .inl (T 0, 24, .inl f_5)), ((a 20), .inl (T 1, 672, .inr (.inl (vp_updL y0 (r_18.toNatClampNeg) l_16)))), ((a 21), .inl (T 1, 672, .inr (.inl y1))), ((a 22), .inl (T 4, 672, .inl (upd y2 (r_18.toNatClampNeg) (vp_nar .boolean n_15))))] hP hD rfl
            refine lv_aload_n hx hb dX13_laysWorths_101 rfl (lv_at hl 4 rfl) ?_
            refine va_get (D := D) (ci := 10) (v := .ref (a 21)) (C := RX13) (T := TX13) (N := 45) hx hb hts in_X13_laysWorths_X13 hown hE.1 hP 0 rfl rfl 21 (by decide +kernel) (hts (.fieldLink RX13 60 "ClauseBookModel" "worthBelow" "[J") (List.mem_of_getElem? (i := 6) rfl)) (fun _ h9 => h9) rfl dX13_laysWorths_102 ?_
            refine lv_iload hx hb dX13_laysWorths_105 (lv_at hl 0 rfl) ?_
            refine lv_aload_n hx hb dX13_laysWorths_107 rfl (lv_at hl 4 rfl) ?_
            refine va_get (D := D) (ci := 10) (v := .int n_15) (C := RX13) (T := TX13) (N := 45) hx hb hts in_X13_laysWorths_X13 hown hE.1 hP 0 rfl rfl 14 (by decide +kernel) (hts (.fieldLink RX13 131 "ClauseBookModel" "isMuch" "Z") (List.mem_of_getElem? (i := 1) rfl)) (fun _ h9 => h9) rfl dX13_laysWorths_108 ?_
            refine lv_if_eq (tgt := 118) hx hb dX13_laysWorths_111 (by decide +kernel) (fun c_20 => ?_) (fun c_20 => ?_)
            · rw [fa_eq] at c_20
              try rw [ti_0] at c_20
              refine lv_aload_n hx hb dX13_laysWorths_118 rfl (lv_at hl 4 rfl) ?_
              refine va_get (D := D) (ci := 10) (v := .long l_17) (C := RX13) (T := TX13) (N := 45) hx hb hts in_X13_laysWorths_X13 hown hE.1 hP 0 rfl rfl 16 (by decide +kernel) (hts (.fieldLink RX13 149 "ClauseBookModel" "below" "J") (List.mem_of_getElem? (i := 7) rfl)) (fun _ h9 => h9) rfl dX13_laysWorths_119 ?_
              refine va_last hx hb hE.1 hP hD hS 9 1 rfl rfl (by rw [vp_in_iff]; first | omega | (subst_vars; omega)) dX13_laysWorths_122 (fun H locs hP hD hS => ?_)
              obtain ⟨hP, hD⟩ := wPD [(h0, .inr (10, (Value.int (q 0) :: Value.int (q 1) :: Value.int (q 2) :: Value.int (q 3) :: Value.int (q 4) :: Value.int (q 5) :: Value.int (q 6) :: Value.int (q 7) :: Value.ref (a 8) :: Value.ref (a 9) :: Value.ref (a 10) :: Value.ref (a 11) :: Value.ref (a 12) :: Value.ref (a 13) :: Value.int n_15 :: Value.long l_16 :: Value.long l_17 :: Value.ref (a 17) :: Value.ref (a 18) :: Value.ref (a 19) :: Value.ref (a 20) :: Value.ref (a 21) :: Value.ref (a 22) :: Value.ref (a 23) :: Value.int (q 24) :: Value.ref (a 25) :: Value.int (q 26) :: Value.ref (a 27) :: Value.int (q 28) :: Value.int (q 29) :: Value.int (q 30) :: Value.int (q 31) :: Value.int (q 32) :: Value.int (q 33) :: Value.ref (a 34) :: Value.ref (a 35) :: Value.ref (a 36) :: Value.ref (a 37) :: Value.ref (a 38) :: Value.ref (a 39) :: Value.ref (a 40) :: Value.int (q 41) :: Value.ref (a 42) :: Value.int (q 43) :: Value.int (q 44) :: []))), ((a 8), .inl (T 0, 24, .inl f8)), ((a 9), .inl (T 0, 24, .inl f9)), ((a 10), .inl (T 0, 24, .inl f10)), ((a 11), .inl (T 0, 24, .inl f11)), ((a 17), .inl (T 0, 24, .inl f_3)), ((a 18), .inl (T 0, 24, .inl f_4)), ((a 19), .inl (T 0, 24, .inl f_5)), ((a 20), .inl (T 1, 672, .inr (.inl (vp_updL y0 (r_18.toNatClampNeg) l_16)))), ((a 21), .inl (T 1, 672, .inr (.inl (vp_updL y1 (r_18.toNatClampNeg) l_17)))), ((a 22), .inl (T 4, 672, .inl (upd y2 (r_18.toNatClampNeg) (vp_nar .boolean n_15))))] hP hD rfl
              have hWS : wbS (vp_updL y1 (r_18.toNatClampNeg) l_17) xx.toInt dd.toInt (ss.toInt + 1) := wbS_up hWS (by omega) (by omega) (by first | decide | omega)
              have hLJ : layJ (VALW (lqW (q 0) (q 1) (q 2) (q 3) (q 4) (q 5) (q 6)) f8 f9 f10 f11 f_3) (tabW (vp_updL y0 (r_18.toNatClampNeg) l_16) (vp_updL y1 (r_18.toNatClampNeg) l_17) (upd y2 (r_18.toNatClampNeg) (vp_nar .boolean n_15))) xx.toInt dd.toInt (ss.toInt + 1) := layJ_put hLJ (tab_ne hsl9 (by omega) ⟨⟨(by omega), (by omega)⟩, (by omega), (by omega)⟩) (tab_put hsl9 hB14_r_13 (by first | exact hmp9 | exact (mp_any (by omega)).trans hmp9 | (exfalso; omega)))
              obtain ⟨z_21, ez_21⟩ : ∃ y : Int32, y = ss + 1 := ⟨_, rfl⟩
              refine lv_iinc (v := z_21) (lv' := [(4, .int z_21), (5, .int r_18), (3, .int dd), (2, .int xx), (0, .ref h0), (1, .int x1)]) hx hb dX13_laysWorths_123 hl (k := 1) rfl (by rw [ez_21]; rfl) (by decide +kernel) rfl (fun ls hl => ?_)
              have hs9 : z_21.toInt = ss.toInt + 1 := by rw [ez_21]; exact inc1 (n := 1000) (by omega) (by decide +kernel)
              refine lv_goto (tgt := 21) hx hb dX13_laysWorths_126 (by decide +kernel) ?_
              exact ih (z_21, n_15, l_16, l_17, (vp_updL y0 (r_18.toNatClampNeg) l_16), (vp_updL y1 (r_18.toNatClampNeg) l_17), (upd y2 (r_18.toNatClampNeg) (vp_nar .boolean n_15))) ls _ _ ⟨lv_sub hl [0, 2, 3, 4, 5] rfl, hP.sub [0, 1, 2, 3, 4, 5, 6, 7, 8, 9, 10] rfl, hD.sub [0, 1, 2, 3, 4, 5, 6, 7, 8, 9, 10] (by decide +kernel) rfl, hS, ⟨(by (try dsimp only); rw [hs9]; omega), hZ, (by (try dsimp only); rw [hs9]; exact hWS), (by (try dsimp only); rw [hs9]; exact hLJ)⟩⟩ (by (try dsimp only); rw [hs9]; omega)
            · rw [fa_eq] at c_20
              try rw [ti_0] at c_20
              refine lv_lconst (v := 1) hx hb dX13_laysWorths_114 (by decide +kernel) ?_
              refine lv_goto (tgt := 122) hx hb dX13_laysWorths_115 (by decide +kernel) ?_
              refine va_last hx hb hE.1 hP hD hS 9 1 rfl rfl (by rw [vp_in_iff]; first | omega | (subst_vars; omega)) dX13_laysWorths_122 (fun H locs hP hD hS => ?_)
              obtain ⟨hP, hD⟩ := wPD [(h0, .inr (10, (Value.int (q 0) :: Value.int (q 1) :: Value.int (q 2) :: Value.int (q 3) :: Value.int (q 4) :: Value.int (q 5) :: Value.int (q 6) :: Value.int (q 7) :: Value.ref (a 8) :: Value.ref (a 9) :: Value.ref (a 10) :: Value.ref (a 11) :: Value.ref (a 12) :: Value.ref (a 13) :: Value.int n_15 :: Value.long l_16 :: Value.long l_17 :: Value.ref (a 17) :: Value.ref (a 18) :: Value.ref (a 19) :: Value.ref (a 20) :: Value.ref (a 21) :: Value.ref (a 22) :: Value.ref (a 23) :: Value.int (q 24) :: Value.ref (a 25) :: Value.int (q 26) :: Value.ref (a 27) :: Value.int (q 28) :: Value.int (q 29) :: Value.int (q 30) :: Value.int (q 31) :: Value.int (q 32) :: Value.int (q 33) :: Value.ref (a 34) :: Value.ref (a 35) :: Value.ref (a 36) :: Value.ref (a 37) :: Value.ref (a 38) :: Value.ref (a 39) :: Value.ref (a 40) :: Value.int (q 41) :: Value.ref (a 42) :: Value.int (q 43) :: Value.int (q 44) :: []))), ((a 8), .inl (T 0, 24, .inl f8)), ((a 9), .inl (T 0, 24, .inl f9)), ((a 10), .inl (T 0, 24, .inl f10)), ((a 11), .inl (T 0, 24, .inl f11)), ((a 17), .inl (T 0, 24, .inl f_3)), ((a 18), .inl (T 0, 24, .inl f_4)), ((a 19), .inl (T 0, 24, .inl f_5)), ((a 20), .inl (T 1, 672, .inr (.inl (vp_updL y0 (r_18.toNatClampNeg) l_16)))), ((a 21), .inl (T 1, 672, .inr (.inl (vp_updL y1 (r_18.toNatClampNeg) 1)))), ((a 22), .inl (T 4, 672, .inl (upd y2 (r_18.toNatClampNeg) (vp_nar .boolean n_15))))] hP hD rfl
              have hWS : wbS (vp_updL y1 (r_18.toNatClampNeg) 1) xx.toInt dd.toInt (ss.toInt + 1) := wbS_up hWS (by omega) (by omega) (by first | decide | omega)
              have hLJ : layJ (VALW (lqW (q 0) (q 1) (q 2) (q 3) (q 4) (q 5) (q 6)) f8 f9 f10 f11 f_3) (tabW (vp_updL y0 (r_18.toNatClampNeg) l_16) (vp_updL y1 (r_18.toNatClampNeg) 1) (upd y2 (r_18.toNatClampNeg) (vp_nar .boolean n_15))) xx.toInt dd.toInt (ss.toInt + 1) := layJ_put hLJ (tab_ne hsl9 (by omega) ⟨⟨(by omega), (by omega)⟩, (by omega), (by omega)⟩) (tab_put hsl9 hB14_r_13 (by first | exact hmp9 | exact (mp_any (by omega)).trans hmp9 | (exfalso; omega)))
              obtain ⟨z_22, ez_22⟩ : ∃ y : Int32, y = ss + 1 := ⟨_, rfl⟩
              refine lv_iinc (v := z_22) (lv' := [(4, .int z_22), (5, .int r_18), (3, .int dd), (2, .int xx), (0, .ref h0), (1, .int x1)]) hx hb dX13_laysWorths_123 hl (k := 1) rfl (by rw [ez_22]; rfl) (by decide +kernel) rfl (fun ls hl => ?_)
              have hs9 : z_22.toInt = ss.toInt + 1 := by rw [ez_22]; exact inc1 (n := 1000) (by omega) (by decide +kernel)
              refine lv_goto (tgt := 21) hx hb dX13_laysWorths_126 (by decide +kernel) ?_
              exact ih (z_22, n_15, l_16, l_17, (vp_updL y0 (r_18.toNatClampNeg) l_16), (vp_updL y1 (r_18.toNatClampNeg) 1), (upd y2 (r_18.toNatClampNeg) (vp_nar .boolean n_15))) ls _ _ ⟨lv_sub hl [0, 2, 3, 4, 5] rfl, hP.sub [0, 1, 2, 3, 4, 5, 6, 7, 8, 9, 10] rfl, hD.sub [0, 1, 2, 3, 4, 5, 6, 7, 8, 9, 10] (by decide +kernel) rfl, hS, ⟨(by (try dsimp only); rw [hs9]; omega), hZ, (by (try dsimp only); rw [hs9]; exact hWS), (by (try dsimp only); rw [hs9]; exact hLJ)⟩⟩ (by (try dsimp only); rw [hs9]; omega)
          · rw [fa_eq] at c_19
            try rw [ti_0] at c_19
            refine lv_lconst (v := 0) hx hb dX13_laysWorths_92 (by decide +kernel) ?_
            refine lv_goto (tgt := 100) hx hb dX13_laysWorths_93 (by decide +kernel) ?_
            refine va_last hx hb hE.1 hP hD hS 8 1 rfl rfl (by rw [vp_in_iff]; first | omega | (subst_vars; omega)) dX13_laysWorths_100 (fun H locs hP hD hS => ?_)
            obtain ⟨hP, hD⟩ := wPD [(h0, .inr (10, (Value.int (q 0) :: Value.int (q 1) :: Value.int (q 2) :: Value.int (q 3) :: Value.int (q 4) :: Value.int (q 5) :: Value.int (q 6) :: Value.int (q 7) :: Value.ref (a 8) :: Value.ref (a 9) :: Value.ref (a 10) :: Value.ref (a 11) :: Value.ref (a 12) :: Value.ref (a 13) :: Value.int n_15 :: Value.long l_16 :: Value.long l_17 :: Value.ref (a 17) :: Value.ref (a 18) :: Value.ref (a 19) :: Value.ref (a 20) :: Value.ref (a 21) :: Value.ref (a 22) :: Value.ref (a 23) :: Value.int (q 24) :: Value.ref (a 25) :: Value.int (q 26) :: Value.ref (a 27) :: Value.int (q 28) :: Value.int (q 29) :: Value.int (q 30) :: Value.int (q 31) :: Value.int (q 32) :: Value.int (q 33) :: Value.ref (a 34) :: Value.ref (a 35) :: Value.ref (a 36) :: Value.ref (a 37) :: Value.ref (a 38) :: Value.ref (a 39) :: Value.ref (a 40) :: Value.int (q 41) :: Value.ref (a 42) :: Value.int (q 43) :: Value.int (q 44) :: []))), ((a 8), .inl (T 0, 24, .inl f8)), ((a 9), .inl (T 0, 24, .inl f9)), ((a 10), .inl (T 0, 24, .inl f10)), ((a 11), .inl (T 0, 24, .inl f11)), ((a 17), .inl (T 0, 24, .inl f_3)), ((a 18), .inl (T 0, 24, .inl f_4)), ((a 19), .inl (T 0, 24, .inl f_5)), ((a 20), .inl (T 1, 672, .inr (.inl (vp_updL y0 (r_18.toNatClampNeg) 0)))), ((a 21), .inl (T 1, 672, .inr (.inl y1))), ((a 22), .inl (T 4, 672, .inl (upd y2 (r_18.toNatClampNeg) (vp_nar .boolean n_15))))] hP hD rfl
            refine lv_aload_n hx hb dX13_laysWorths_101 rfl (lv_at hl 4 rfl) ?_
            refine va_get (D := D) (ci := 10) (v := .ref (a 21)) (C := RX13) (T := TX13) (N := 45) hx hb hts in_X13_laysWorths_X13 hown hE.1 hP 0 rfl rfl 21 (by decide +kernel) (hts (.fieldLink RX13 60 "ClauseBookModel" "worthBelow" "[J") (List.mem_of_getElem? (i := 6) rfl)) (fun _ h9 => h9) rfl dX13_laysWorths_102 ?_
            refine lv_iload hx hb dX13_laysWorths_105 (lv_at hl 0 rfl) ?_
            refine lv_aload_n hx hb dX13_laysWorths_107 rfl (lv_at hl 4 rfl) ?_
            refine va_get (D := D) (ci := 10) (v := .int n_15) (C := RX13) (T := TX13) (N := 45) hx hb hts in_X13_laysWorths_X13 hown hE.1 hP 0 rfl rfl 14 (by decide +kernel) (hts (.fieldLink RX13 131 "ClauseBookModel" "isMuch" "Z") (List.mem_of_getElem? (i := 1) rfl)) (fun _ h9 => h9) rfl dX13_laysWorths_108 ?_
            refine lv_if_eq (tgt := 118) hx hb dX13_laysWorths_111 (by decide +kernel) (fun c_23 => ?_) (fun c_23 => ?_)
            · rw [fa_eq] at c_23
              try rw [ti_0] at c_23
              refine lv_aload_n hx hb dX13_laysWorths_118 rfl (lv_at hl 4 rfl) ?_
              refine va_get (D := D) (ci := 10) (v := .long l_17) (C := RX13) (T := TX13) (N := 45) hx hb hts in_X13_laysWorths_X13 hown hE.1 hP 0 rfl rfl 16 (by decide +kernel) (hts (.fieldLink RX13 149 "ClauseBookModel" "below" "J") (List.mem_of_getElem? (i := 7) rfl)) (fun _ h9 => h9) rfl dX13_laysWorths_119 ?_
              refine va_last hx hb hE.1 hP hD hS 9 1 rfl rfl (by rw [vp_in_iff]; first | omega | (subst_vars; omega)) dX13_laysWorths_122 (fun H locs hP hD hS => ?_)
              obtain ⟨hP, hD⟩ := wPD [(h0, .inr (10, (Value.int (q 0) :: Value.int (q 1) :: Value.int (q 2) :: Value.int (q 3) :: Value.int (q 4) :: Value.int (q 5) :: Value.int (q 6) :: Value.int (q 7) :: Value.ref (a 8) :: Value.ref (a 9) :: Value.ref (a 10) :: Value.ref (a 11) :: Value.ref (a 12) :: Value.ref (a 13) :: Value.int n_15 :: Value.long l_16 :: Value.long l_17 :: Value.ref (a 17) :: Value.ref (a 18) :: Value.ref (a 19) :: Value.ref (a 20) :: Value.ref (a 21) :: Value.ref (a 22) :: Value.ref (a 23) :: Value.int (q 24) :: Value.ref (a 25) :: Value.int (q 26) :: Value.ref (a 27) :: Value.int (q 28) :: Value.int (q 29) :: Value.int (q 30) :: Value.int (q 31) :: Value.int (q 32) :: Value.int (q 33) :: Value.ref (a 34) :: Value.ref (a 35) :: Value.ref (a 36) :: Value.ref (a 37) :: Value.ref (a 38) :: Value.ref (a 39) :: Value.ref (a 40) :: Value.int (q 41) :: Value.ref (a 42) :: Value.int (q 43) :: Value.int (q 44) :: []))), ((a 8), .inl (T 0, 24, .inl f8)), ((a 9), .inl (T 0, 24, .inl f9)), ((a 10), .inl (T 0, 24, .inl f10)), ((a 11), .inl (T 0, 24, .inl f11)), ((a 17), .inl (T 0, 24, .inl f_3)), ((a 18), .inl (T 0, 24, .inl f_4)), ((a 19), .inl (T 0, 24, .inl f_5)), ((a 20), .inl (T 1, 672, .inr (.inl (vp_updL y0 (r_18.toNatClampNeg) 0)))), ((a 21), .inl (T 1, 672, .inr (.inl (vp_updL y1 (r_18.toNatClampNeg) l_17)))), ((a 22), .inl (T 4, 672, .inl (upd y2 (r_18.toNatClampNeg) (vp_nar .boolean n_15))))] hP hD rfl
              have hWS : wbS (vp_updL y1 (r_18.toNatClampNeg) l_17) xx.toInt dd.toInt (ss.toInt + 1) := wbS_up hWS (by omega) (by omega) (by first | decide | omega)
              have hLJ : layJ (VALW (lqW (q 0) (q 1) (q 2) (q 3) (q 4) (q 5) (q 6)) f8 f9 f10 f11 f_3) (tabW (vp_updL y0 (r_18.toNatClampNeg) 0) (vp_updL y1 (r_18.toNatClampNeg) l_17) (upd y2 (r_18.toNatClampNeg) (vp_nar .boolean n_15))) xx.toInt dd.toInt (ss.toInt + 1) := layJ_put hLJ (tab_ne hsl9 (by omega) ⟨⟨(by omega), (by omega)⟩, (by omega), (by omega)⟩) (tab_put hsl9 hB14_r_13 (by first | exact hmp9 | exact (mp_any (by omega)).trans hmp9 | (exfalso; omega)))
              obtain ⟨z_24, ez_24⟩ : ∃ y : Int32, y = ss + 1 := ⟨_, rfl⟩
              refine lv_iinc (v := z_24) (lv' := [(4, .int z_24), (5, .int r_18), (3, .int dd), (2, .int xx), (0, .ref h0), (1, .int x1)]) hx hb dX13_laysWorths_123 hl (k := 1) rfl (by rw [ez_24]; rfl) (by decide +kernel) rfl (fun ls hl => ?_)
              have hs9 : z_24.toInt = ss.toInt + 1 := by rw [ez_24]; exact inc1 (n := 1000) (by omega) (by decide +kernel)
              refine lv_goto (tgt := 21) hx hb dX13_laysWorths_126 (by decide +kernel) ?_
              exact ih (z_24, n_15, l_16, l_17, (vp_updL y0 (r_18.toNatClampNeg) 0), (vp_updL y1 (r_18.toNatClampNeg) l_17), (upd y2 (r_18.toNatClampNeg) (vp_nar .boolean n_15))) ls _ _ ⟨lv_sub hl [0, 2, 3, 4, 5] rfl, hP.sub [0, 1, 2, 3, 4, 5, 6, 7, 8, 9, 10] rfl, hD.sub [0, 1, 2, 3, 4, 5, 6, 7, 8, 9, 10] (by decide +kernel) rfl, hS, ⟨(by (try dsimp only); rw [hs9]; omega), hZ, (by (try dsimp only); rw [hs9]; exact hWS), (by (try dsimp only); rw [hs9]; exact hLJ)⟩⟩ (by (try dsimp only); rw [hs9]; omega)
            · rw [fa_eq] at c_23
              try rw [ti_0] at c_23
              refine lv_lconst (v := 1) hx hb dX13_laysWorths_114 (by decide +kernel) ?_
              refine lv_goto (tgt := 122) hx hb dX13_laysWorths_115 (by decide +kernel) ?_
              refine va_last hx hb hE.1 hP hD hS 9 1 rfl rfl (by rw [vp_in_iff]; first | omega | (subst_vars; omega)) dX13_laysWorths_122 (fun H locs hP hD hS => ?_)
              obtain ⟨hP, hD⟩ := wPD [(h0, .inr (10, (Value.int (q 0) :: Value.int (q 1) :: Value.int (q 2) :: Value.int (q 3) :: Value.int (q 4) :: Value.int (q 5) :: Value.int (q 6) :: Value.int (q 7) :: Value.ref (a 8) :: Value.ref (a 9) :: Value.ref (a 10) :: Value.ref (a 11) :: Value.ref (a 12) :: Value.ref (a 13) :: Value.int n_15 :: Value.long l_16 :: Value.long l_17 :: Value.ref (a 17) :: Value.ref (a 18) :: Value.ref (a 19) :: Value.ref (a 20) :: Value.ref (a 21) :: Value.ref (a 22) :: Value.ref (a 23) :: Value.int (q 24) :: Value.ref (a 25) :: Value.int (q 26) :: Value.ref (a 27) :: Value.int (q 28) :: Value.int (q 29) :: Value.int (q 30) :: Value.int (q 31) :: Value.int (q 32) :: Value.int (q 33) :: Value.ref (a 34) :: Value.ref (a 35) :: Value.ref (a 36) :: Value.ref (a 37) :: Value.ref (a 38) :: Value.ref (a 39) :: Value.ref (a 40) :: Value.int (q 41) :: Value.ref (a 42) :: Value.int (q 43) :: Value.int (q 44) :: []))), ((a 8), .inl (T 0, 24, .inl f8)), ((a 9), .inl (T 0, 24, .inl f9)), ((a 10), .inl (T 0, 24, .inl f10)), ((a 11), .inl (T 0, 24, .inl f11)), ((a 17), .inl (T 0, 24, .inl f_3)), ((a 18), .inl (T 0, 24, .inl f_4)), ((a 19), .inl (T 0, 24, .inl f_5)), ((a 20), .inl (T 1, 672, .inr (.inl (vp_updL y0 (r_18.toNatClampNeg) 0)))), ((a 21), .inl (T 1, 672, .inr (.inl (vp_updL y1 (r_18.toNatClampNeg) 1)))), ((a 22), .inl (T 4, 672, .inl (upd y2 (r_18.toNatClampNeg) (vp_nar .boolean n_15))))] hP hD rfl
              have hWS : wbS (vp_updL y1 (r_18.toNatClampNeg) 1) xx.toInt dd.toInt (ss.toInt + 1) := wbS_up hWS (by omega) (by omega) (by first | decide | omega)
              have hLJ : layJ (VALW (lqW (q 0) (q 1) (q 2) (q 3) (q 4) (q 5) (q 6)) f8 f9 f10 f11 f_3) (tabW (vp_updL y0 (r_18.toNatClampNeg) 0) (vp_updL y1 (r_18.toNatClampNeg) 1) (upd y2 (r_18.toNatClampNeg) (vp_nar .boolean n_15))) xx.toInt dd.toInt (ss.toInt + 1) := layJ_put hLJ (tab_ne hsl9 (by omega) ⟨⟨(by omega), (by omega)⟩, (by omega), (by omega)⟩) (tab_put hsl9 hB14_r_13 (by first | exact hmp9 | exact (mp_any (by omega)).trans hmp9 | (exfalso; omega)))
              obtain ⟨z_25, ez_25⟩ : ∃ y : Int32, y = ss + 1 := ⟨_, rfl⟩
              refine lv_iinc (v := z_25) (lv' := [(4, .int z_25), (5, .int r_18), (3, .int dd), (2, .int xx), (0, .ref h0), (1, .int x1)]) hx hb dX13_laysWorths_123 hl (k := 1) rfl (by rw [ez_25]; rfl) (by decide +kernel) rfl (fun ls hl => ?_)
              have hs9 : z_25.toInt = ss.toInt + 1 := by rw [ez_25]; exact inc1 (n := 1000) (by omega) (by decide +kernel)
              refine lv_goto (tgt := 21) hx hb dX13_laysWorths_126 (by decide +kernel) ?_
              exact ih (z_25, n_15, l_16, l_17, (vp_updL y0 (r_18.toNatClampNeg) 0), (vp_updL y1 (r_18.toNatClampNeg) 1), (upd y2 (r_18.toNatClampNeg) (vp_nar .boolean n_15))) ls _ _ ⟨lv_sub hl [0, 2, 3, 4, 5] rfl, hP.sub [0, 1, 2, 3, 4, 5, 6, 7, 8, 9, 10] rfl, hD.sub [0, 1, 2, 3, 4, 5, 6, 7, 8, 9, 10] (by decide +kernel) rfl, hS, ⟨(by (try dsimp only); rw [hs9]; omega), hZ, (by (try dsimp only); rw [hs9]; exact hWS), (by (try dsimp only); rw [hs9]; exact hLJ)⟩⟩ (by (try dsimp only); rw [hs9]; omega)
        · rw [fa_le] at c_12
          refine lv_aload_n hx hb dX13_laysWorths_42 rfl (lv_at hl 3 rfl) ?_
          refine lv_lconst (v := 0) hx hb dX13_laysWorths_43 (by decide +kernel) ?_
          refine lv_lconst (v := 1) hx hb dX13_laysWorths_44 (by decide +kernel) ?_
          have hFc := va_free (wc := [(h0, .inr (10, (Value.int (q 0) :: Value.int (q 1) :: Value.int (q 2) :: Value.int (q 3) :: Value.int (q 4) :: Value.int (q 5) :: Value.int (q 6) :: Value.int (q 7) :: Value.ref (a 8) :: Value.ref (a 9) :: Value.ref (a 10) :: Value.ref (a 11) :: Value.ref (a 12) :: Value.ref (a 13) :: Value.int 0 :: Value.long yv :: Value.long yw :: Value.ref (a 17) :: Value.ref (a 18) :: Value.ref (a 19) :: Value.ref (a 20) :: Value.ref (a 21) :: Value.ref (a 22) :: Value.ref (a 23) :: Value.int (q 24) :: Value.ref (a 25) :: Value.int (q 26) :: Value.ref (a 27) :: Value.int (q 28) :: Value.int (q 29) :: Value.int (q 30) :: Value.int (q 31) :: Value.int (q 32) :: Value.int (q 33) :: Value.ref (a 34) :: Value.ref (a 35) :: Value.ref (a 36) :: Value.ref (a 37) :: Value.ref (a 38) :: Value.ref (a 39) :: Value.ref (a 40) :: Value.int (q 41) :: Value.ref (a 42) :: Value.int (q 43) :: Value.int (q 44) :: [])))]) hD hS hA [0] rfl
          refine va_callv (va_runV (As := [.long 0, .long 1]) (rest := []) ⟨hx, hb, hml, hown, hts⟩ (c_X13_becomes l D T _ h0 (fun k => cond (Nat.beq k 14) 0 (q k)) yv yw a 0 1 (show ((0 : Int32) : Int32).toInt = 0 → 1 ≤ (1 : Int64).toInt from (fun _ => by decide))) (cwV 2 hts gX13_laysWorths_X13_becomes rfl rfl rfl hv_X13_becomes ⟨Nat.le_of_ble_eq_true rfl, Nat.le_of_ble_eq_true rfl⟩) (pW_V (q := (RX13, TX13, 45)) (ci := 10) (q0 := 0) hP hE hD rfl rfl [0] (by decide +kernel) rfl rfl) rfl rfl hl.1 rfl (lv_room (Nat.le_of_ble_eq_true rfl)) dX13_laysWorths_45 ⟨Nat.le_of_ble_eq_true rfl, Nat.le_of_ble_eq_true rfl⟩) hS (fun q _ h => hFc q h) hFc (fun u_27 t H1 locs ht hvm hr_26 hB hz1 hk1 hS => ?_)
          obtain ⟨l_28, l_29⟩ := u_27
          obtain ⟨hi0_r_26, hi1_r_26⟩ := hr_26
          have hj0_r_26 : ((0 : Int32) : Int32).toInt = 0 ∨ 1 ≤ yw.toInt → 1 ≤ l_29.toInt := hi0_r_26
          have hj1_r_26 : ((0 : Int32) : Int32).toInt = 0 → ((l_28, l_29) : Int64 × Int64) = redW (0 : Int64) (1 : Int64) := hi1_r_26
          obtain ⟨hP1, hD1⟩ := hB
          rw [ht] at hP1
          obtain ⟨hP, hD⟩ := va_repl [(h0, .inr (10, (Value.int (q 0) :: Value.int (q 1) :: Value.int (q 2) :: Value.int (q 3) :: Value.int (q 4) :: Value.int (q 5) :: Value.int (q 6) :: Value.int (q 7) :: Value.ref (a 8) :: Value.ref (a 9) :: Value.ref (a 10) :: Value.ref (a 11) :: Value.ref (a 12) :: Value.ref (a 13) :: Value.int 0 :: Value.long l_28 :: Value.long l_29 :: Value.ref (a 17) :: Value.ref (a 18) :: Value.ref (a 19) :: Value.ref (a 20) :: Value.ref (a 21) :: Value.ref (a 22) :: Value.ref (a 23) :: Value.int (q 24) :: Value.ref (a 25) :: Value.int (q 26) :: Value.ref (a 27) :: Value.int (q 28) :: Value.int (q 29) :: Value.int (q 30) :: Value.int (q 31) :: Value.int (q 32) :: Value.int (q 33) :: Value.ref (a 34) :: Value.ref (a 35) :: Value.ref (a 36) :: Value.ref (a 37) :: Value.ref (a 38) :: Value.ref (a 39) :: Value.ref (a 40) :: Value.int (q 41) :: Value.ref (a 42) :: Value.int (q 43) :: Value.int (q 44) :: []))), ((a 8), .inl (T 0, 24, .inl f8)), ((a 9), .inl (T 0, 24, .inl f9)), ((a 10), .inl (T 0, 24, .inl f10)), ((a 11), .inl (T 0, 24, .inl f11)), ((a 17), .inl (T 0, 24, .inl f_3)), ((a 18), .inl (T 0, 24, .inl f_4)), ((a 19), .inl (T 0, 24, .inl f_5)), ((a 20), .inl (T 1, 672, .inr (.inl y0))), ((a 21), .inl (T 1, 672, .inr (.inl y1))), ((a 22), .inl (T 4, 672, .inl y2))] hP hD [0] [0] rfl (by decide +kernel) rfl rfl rfl hk1 hP1
          clear hP1 hD1 hFc
          generalize H1 = H at hP hS ⊢
          refine lv_goto (tgt := 59) hx hb dX13_laysWorths_48 (by decide +kernel) ?_
          have hmp9 : mpW (0 : Int32) l_28 l_29 = (VALW (lqW (q 0) (q 1) (q 2) (q 3) (q 4) (q 5) (q 6)) f8 f9 f10 f11 f_3) xx dd ss := (show mpW (0 : Int32) l_28 l_29 = stepW (lqW (q 0) (q 1) (q 2) (q 3) (q 4) (q 5) (q 6)) f8 f9 f10 f11 f_3 (tabW y0 y1 y2) xx dd ss from lc_e (by omega) (mp_bec (by decide +kernel) hj1_r_26 red_01)).trans (lay_val hokX (by omega) hLJ (by omega) ⟨⟨(by omega), (by omega)⟩, (by omega), (by omega)⟩)
          refine lv_iload_n hx hb dX13_laysWorths_59 rfl (lv_at hl 2 rfl) ?_
          refine lv_iload_n hx hb dX13_laysWorths_60 rfl (lv_at hl 1 rfl) ?_
          refine lv_iload hx hb dX13_laysWorths_61 (lv_at hl 0 rfl) ?_
          refine vp_callSi (W.runS (As := [.int xx, .int dd, .int ss]) (rest := []) ⟨hx, hb, hml, hown, hts⟩ (c_X13_at l D T xx dd ss (by (try simp only [ti_0]); omega) (by (try simp only [ti_0]); omega) (by (try simp only [ti_0]); omega)) (va_cwS 3 hts gX13_laysWorths_X13_at rfl rfl rfl hs_X13_at ⟨Nat.le_of_ble_eq_true rfl, Nat.le_of_ble_eq_true rfl⟩) (pR_S hP hE [] rfl) rfl rfl hl.1 rfl (lv_room (Nat.le_of_ble_eq_true rfl)) dX13_laysWorths_63 ⟨Nat.le_of_ble_eq_true rfl, Nat.le_of_ble_eq_true rfl⟩) (fun r_30 hr_30 => ?_)
          have hsl9 : r_30.toNatClampNeg = slN xx dd ss := at_sl (by omega) (by omega) (by omega) hr_30.1
          refine lv_istore (lv' := [(5, .int r_30), (4, .int ss), (3, .int dd), (2, .int xx), (0, .ref h0), (1, .int x1)]) hx hb dX13_laysWorths_66 hl (by decide +kernel) rfl (fun ls hl => ?_)
          refine lv_aload_n hx hb dX13_laysWorths_68 rfl (lv_at hl 4 rfl) ?_
          refine va_get (D := D) (ci := 10) (v := .ref (a 22)) (C := RX13) (T := TX13) (N := 45) hx hb hts in_X13_laysWorths_X13 hown hE.1 hP 0 rfl rfl 22 (by decide +kernel) (hts (.fieldLink RX13 63 "ClauseBookModel" "worthMuch" "[Z") (List.mem_of_getElem? (i := 3) rfl)) (fun _ h9 => h9) rfl dX13_laysWorths_69 ?_
          refine lv_iload hx hb dX13_laysWorths_72 (lv_at hl 0 rfl) ?_
          refine lv_aload_n hx hb dX13_laysWorths_74 rfl (lv_at hl 4 rfl) ?_
          refine va_get (D := D) (ci := 10) (v := .int 0) (C := RX13) (T := TX13) (N := 45) hx hb hts in_X13_laysWorths_X13 hown hE.1 hP 0 rfl rfl 14 (by decide +kernel) (hts (.fieldLink RX13 131 "ClauseBookModel" "isMuch" "Z") (List.mem_of_getElem? (i := 1) rfl)) (fun _ h9 => h9) rfl dX13_laysWorths_75 ?_
          refine va_zast hx hb hE.1 hP hD hS 10 4 rfl rfl (by rw [vp_in_iff]; first | omega | (subst_vars; omega)) dX13_laysWorths_78 (fun H locs hP hD hS => ?_)
          obtain ⟨hP, hD⟩ := wPD [(h0, .inr (10, (Value.int (q 0) :: Value.int (q 1) :: Value.int (q 2) :: Value.int (q 3) :: Value.int (q 4) :: Value.int (q 5) :: Value.int (q 6) :: Value.int (q 7) :: Value.ref (a 8) :: Value.ref (a 9) :: Value.ref (a 10) :: Value.ref (a 11) :: Value.ref (a 12) :: Value.ref (a 13) :: Value.int 0 :: Value.long l_28 :: Value.long l_29 :: Value.ref (a 17) :: Value.ref (a 18) :: Value.ref (a 19) :: Value.ref (a 20) :: Value.ref (a 21) :: Value.ref (a 22) :: Value.ref (a 23) :: Value.int (q 24) :: Value.ref (a 25) :: Value.int (q 26) :: Value.ref (a 27) :: Value.int (q 28) :: Value.int (q 29) :: Value.int (q 30) :: Value.int (q 31) :: Value.int (q 32) :: Value.int (q 33) :: Value.ref (a 34) :: Value.ref (a 35) :: Value.ref (a 36) :: Value.ref (a 37) :: Value.ref (a 38) :: Value.ref (a 39) :: Value.ref (a 40) :: Value.int (q 41) :: Value.ref (a 42) :: Value.int (q 43) :: Value.int (q 44) :: []))), ((a 8), .inl (T 0, 24, .inl f8)), ((a 9), .inl (T 0, 24, .inl f9)), ((a 10), .inl (T 0, 24, .inl f10)), ((a 11), .inl (T 0, 24, .inl f11)), ((a 17), .inl (T 0, 24, .inl f_3)), ((a 18), .inl (T 0, 24, .inl f_4)), ((a 19), .inl (T 0, 24, .inl f_5)), ((a 20), .inl (T 1, 672, .inr (.inl y0))), ((a 21), .inl (T 1, 672, .inr (.inl y1))), ((a 22), .inl (T 4, 672, .inl (upd y2 (r_30.toNatClampNeg) (vp_nar .boolean 0))))] hP hD rfl
          have hZ : ∀ j : Nat, isB ((upd y2 (r_30.toNatClampNeg) (vp_nar .boolean 0)) j) := isB_up hZ (isB.n isB0).1
          refine lv_aload_n hx hb dX13_laysWorths_79 rfl (lv_at hl 4 rfl) ?_
          refine va_get (D := D) (ci := 10) (v := .ref (a 20)) (C := RX13) (T := TX13) (N := 45) hx hb hts in_X13_laysWorths_X13 hown hE.1 hP 0 rfl rfl 20 (by decide +kernel) (hts (.fieldLink RX13 56 "ClauseBookModel" "worthAbove" "[J") (List.mem_of_getElem? (i := 4) rfl)) (fun _ h9 => h9) rfl dX13_laysWorths_80 ?_
          refine lv_iload hx hb dX13_laysWorths_83 (lv_at hl 0 rfl) ?_
          refine lv_aload_n hx hb dX13_laysWorths_85 rfl (lv_at hl 4 rfl) ?_
          refine va_get (D := D) (ci := 10) (v := .int 0) (C := RX13) (T := TX13) (N := 45) hx hb hts in_X13_laysWorths_X13 hown hE.1 hP 0 rfl rfl 14 (by decide +kernel) (hts (.fieldLink RX13 131 "ClauseBookModel" "isMuch" "Z") (List.mem_of_getElem? (i := 1) rfl)) (fun _ h9 => h9) rfl dX13_laysWorths_86 ?_
          refine lv_if_eq (tgt := 96) hx hb dX13_laysWorths_89 (by decide +kernel) (fun _ => ?_) (fun c9 => absurd c9 (by decide +kernel))
          refine lv_aload_n hx hb dX13_laysWorths_96 rfl (lv_at hl 4 rfl) ?_
          refine va_get (D := D) (ci := 10) (v := .long l_28) (C := RX13) (T := TX13) (N := 45) hx hb hts in_X13_laysWorths_X13 hown hE.1 hP 0 rfl rfl 15 (by decide +kernel) (hts (.fieldLink RX13 145 "ClauseBookModel" "above" "J") (List.mem_of_getElem? (i := 5) rfl)) (fun _ h9 => h9) rfl dX13_laysWorths_97 ?_
          refine va_last hx hb hE.1 hP hD hS 8 1 rfl rfl (by rw [vp_in_iff]; first | omega | (subst_vars; omega)) dX13_laysWorths_100 (fun H locs hP hD hS => ?_)
          obtain ⟨hP, hD⟩ := wPD [(h0, .inr (10, (Value.int (q 0) :: Value.int (q 1) :: Value.int (q 2) :: Value.int (q 3) :: Value.int (q 4) :: Value.int (q 5) :: Value.int (q 6) :: Value.int (q 7) :: Value.ref (a 8) :: Value.ref (a 9) :: Value.ref (a 10) :: Value.ref (a 11) :: Value.ref (a 12) :: Value.ref (a 13) :: Value.int 0 :: Value.long l_28 :: Value.long l_29 :: Value.ref (a 17) :: Value.ref (a 18) :: Value.ref (a 19) :: Value.ref (a 20) :: Value.ref (a 21) :: Value.ref (a 22) :: Value.ref (a 23) :: Value.int (q 24) :: Value.ref (a 25) :: Value.int (q 26) :: Value.ref (a 27) :: Value.int (q 28) :: Value.int (q 29) :: Value.int (q 30) :: Value.int (q 31) :: Value.int (q 32) :: Value.int (q 33) :: Value.ref (a 34) :: Value.ref (a 35) :: Value.ref (a 36) :: Value.ref (a 37) :: Value.ref (a 38) :: Value.ref (a 39) :: Value.ref (a 40) :: Value.int (q 41) :: Value.ref (a 42) :: Value.int (q 43) :: Value.int (q 44) :: []))), ((a 8), .inl (T 0, 24, .inl f8)), ((a 9), .inl (T 0, 24, .inl f9)), ((a 10), .inl (T 0, 24, .inl f10)), ((a 11), .inl (T 0, 24, .inl f11)), ((a 17), .inl (T 0, 24, .inl f_3)), ((a 18), .inl (T 0, 24, .inl f_4)), ((a 19), .inl (T 0, 24, .inl f_5)), ((a 20), .inl (T 1, 672, .inr (.inl (vp_updL y0 (r_30.toNatClampNeg) l_28)))), ((a 21), .inl (T 1, 672, .inr (.inl y1))), ((a 22), .inl (T 4, 672, .inl (upd y2 (r_30.toNatClampNeg) (vp_nar .boolean 0))))] hP hD rfl
          refine lv_aload_n hx hb dX13_laysWorths_101 rfl (lv_at hl 4 rfl) ?_
          refine va_get (D := D) (ci := 10) (v := .ref (a 21)) (C := RX13) (T := TX13) (N := 45) hx hb hts in_X13_laysWorths_X13 hown hE.1 hP 0 rfl rfl 21 (by decide +kernel) (hts (.fieldLink RX13 60 "ClauseBookModel" "worthBelow" "[J") (List.mem_of_getElem? (i := 6) rfl)) (fun _ h9 => h9) rfl dX13_laysWorths_102 ?_
          refine lv_iload hx hb dX13_laysWorths_105 (lv_at hl 0 rfl) ?_
          refine lv_aload_n hx hb dX13_laysWorths_107 rfl (lv_at hl 4 rfl) ?_
          refine va_get (D := D) (ci := 10) (v := .int 0) (C := RX13) (T := TX13) (N := 45) hx hb hts in_X13_laysWorths_X13 hown hE.1 hP 0 rfl rfl 14 (by decide +kernel) (hts (.fieldLink RX13 131 "ClauseBookModel" "isMuch" "Z") (List.mem_of_getElem? (i := 1) rfl)) (fun _ h9 => h9) rfl dX13_laysWorths_108 ?_
          refine lv_if_eq (tgt := 118) hx hb dX13_laysWorths_111 (by decide +kernel) (fun _ => ?_) (fun c9 => absurd c9 (by decide +kernel))
          refine lv_aload_n hx hb dX13_laysWorths_118 rfl (lv_at hl 4 rfl) ?_
          refine va_get (D := D) (ci := 10) (v := .long l_29) (C := RX13) (T := TX13) (N := 45) hx hb hts in_X13_laysWorths_X13 hown hE.1 hP 0 rfl rfl 16 (by decide +kernel) (hts (.fieldLink RX13 149 "ClauseBookModel" "below" "J") (List.mem_of_getElem? (i := 7) rfl)) (fun _ h9 => h9) rfl dX13_laysWorths_119 ?_
          refine va_last hx hb hE.1 hP hD hS 9 1 rfl rfl (by rw [vp_in_iff]; first | omega | (subst_vars; omega)) dX13_laysWorths_122 (fun H locs hP hD hS => ?_)
          obtain ⟨hP, hD⟩ := wPD [(h0, .inr (10, (Value.int (q 0) :: Value.int (q 1) :: Value.int (q 2) :: Value.int (q 3) :: Value.int (q 4) :: Value.int (q 5) :: Value.int (q 6) :: Value.int (q 7) :: Value.ref (a 8) :: Value.ref (a 9) :: Value.ref (a 10) :: Value.ref (a 11) :: Value.ref (a 12) :: Value.ref (a 13) :: Value.int 0 :: Value.long l_28 :: Value.long l_29 :: Value.ref (a 17) :: Value.ref (a 18) :: Value.ref (a 19) :: Value.ref (a 20) :: Value.ref (a 21) :: Value.ref (a 22) :: Value.ref (a 23) :: Value.int (q 24) :: Value.ref (a 25) :: Value.int (q 26) :: Value.ref (a 27) :: Value.int (q 28) :: Value.int (q 29) :: Value.int (q 30) :: Value.int (q 31) :: Value.int (q 32) :: Value.int (q 33) :: Value.ref (a 34) :: Value.ref (a 35) :: Value.ref (a 36) :: Value.ref (a 37) :: Value.ref (a 38) :: Value.ref (a 39) :: Value.ref (a 40) :: Value.int (q 41) :: Value.ref (a 42) :: Value.int (q 43) :: Value.int (q 44) :: []))), ((a 8), .inl (T 0, 24, .inl f8)), ((a 9), .inl (T 0, 24, .inl f9)), ((a 10), .inl (T 0, 24, .inl f10)), ((a 11), .inl (T 0, 24, .inl f11)), ((a 17), .inl (T 0, 24, .inl f_3)), ((a 18), .inl (T 0, 24, .inl f_4)), ((a 19), .inl (T 0, 24, .inl f_5)), ((a 20), .inl (T 1, 672, .inr (.inl (vp_updL y0 (r_30.toNatClampNeg) l_28)))), ((a 21), .inl (T 1, 672, .inr (.inl (vp_updL y1 (r_30.toNatClampNeg) l_29)))), ((a 22), .inl (T 4, 672, .inl (upd y2 (r_30.toNatClampNeg) (vp_nar .boolean 0))))] hP hD rfl
          have hWS : wbS (vp_updL y1 (r_30.toNatClampNeg) l_29) xx.toInt dd.toInt (ss.toInt + 1) := wbS_up hWS (by omega) (by omega) (by first | decide | omega)
          have hLJ : layJ (VALW (lqW (q 0) (q 1) (q 2) (q 3) (q 4) (q 5) (q 6)) f8 f9 f10 f11 f_3) (tabW (vp_updL y0 (r_30.toNatClampNeg) l_28) (vp_updL y1 (r_30.toNatClampNeg) l_29) (upd y2 (r_30.toNatClampNeg) (vp_nar .boolean 0))) xx.toInt dd.toInt (ss.toInt + 1) := layJ_put hLJ (tab_ne hsl9 (by omega) ⟨⟨(by omega), (by omega)⟩, (by omega), (by omega)⟩) (tab_put hsl9 isB0 (by first | exact hmp9 | exact (mp_any (by omega)).trans hmp9 | (exfalso; omega)))
          obtain ⟨z_31, ez_31⟩ : ∃ y : Int32, y = ss + 1 := ⟨_, rfl⟩
          refine lv_iinc (v := z_31) (lv' := [(4, .int z_31), (5, .int r_30), (3, .int dd), (2, .int xx), (0, .ref h0), (1, .int x1)]) hx hb dX13_laysWorths_123 hl (k := 1) rfl (by rw [ez_31]; rfl) (by decide +kernel) rfl (fun ls hl => ?_)
          have hs9 : z_31.toInt = ss.toInt + 1 := by rw [ez_31]; exact inc1 (n := 1000) (by omega) (by decide +kernel)
          refine lv_goto (tgt := 21) hx hb dX13_laysWorths_126 (by decide +kernel) ?_
          exact ih (z_31, 0, l_28, l_29, (vp_updL y0 (r_30.toNatClampNeg) l_28), (vp_updL y1 (r_30.toNatClampNeg) l_29), (upd y2 (r_30.toNatClampNeg) (vp_nar .boolean 0))) ls _ _ ⟨lv_sub hl [0, 2, 3, 4, 5] rfl, hP.sub [0, 1, 2, 3, 4, 5, 6, 7, 8, 9, 10] rfl, hD.sub [0, 1, 2, 3, 4, 5, 6, 7, 8, 9, 10] (by decide +kernel) rfl, hS, ⟨(by (try dsimp only); rw [hs9]; omega), hZ, (by (try dsimp only); rw [hs9]; exact hWS), (by (try dsimp only); rw [hs9]; exact hLJ)⟩⟩ (by (try dsimp only); rw [hs9]; omega)
end
section
/-! what the reference's asks read of the table -/
theorem slN_b {c x t k : Int32} (h : 0 ≤ c.toInt ∧ c.toInt < x.toInt) (g : spK t k) : ((slN c t k : Nat) : Int) < 28 * x.toInt := by
  obtain ⟨⟨a, b⟩, c2, d⟩ := g
  have h1 := tn h.1
  have h2 := tn a
  have h3 := tn c2
  have h4 := trN_le (t := t.toNatClampNeg) (by omega)
  unfold slN
  omega
theorem tab_m0 {f20 f21 : Nat → Int64} {f22 : Nat → Int32} {x t k : Int32} (h : ¬ (f22 (slN x t k)).toInt = 0) : (tabW f20 f21 f22 x t k).2.toInt = 0 := by
  rw [tab_n h]
  decide
theorem tab_m1 {f20 f21 : Nat → Int64} {f22 : Nat → Int32} {x t k : Int32} (h : (f22 (slN x t k)).toInt = 0) (hb : 1 ≤ (f21 (slN x t k)).toInt) : ¬ (tabW f20 f21 f22 x t k).2.toInt = 0 := by
  rw [tab_y h]
  show ¬ (f21 (slN x t k)).toInt = 0
  omega
theorem tab_cmp {f20 f21 : Nat → Int64} {f22 : Nat → Int32} {x t k y t' k' : Int32} (h1 : (f22 (slN x t k)).toInt = 0) (h2 : (f22 (slN y t' k')).toInt = 0) : cmpP (tabW f20 f21 f22 x t k) (tabW f20 f21 f22 y t' k') = cmpW (f20 (slN x t k)).toInt (f21 (slN x t k)).toInt (f20 (slN y t' k')).toInt (f21 (slN y t' k')).toInt := by
  rw [tab_y h1, tab_y h2]
  rfl
theorem part_m {f20 f21 : Nat → Int64} {f22 : Nat → Int32} {x t k i : Int32} {r : Int64} (h : ¬ (f22 (slN x t k)).toInt = 0) (e : r.toInt = -4611686018427387909) : partW (tabW f20 f21 f22 x t k) i r := by
  rw [tab_n h]
  exact Or.inl ⟨by decide, e⟩
theorem part_v {f20 f21 : Nat → Int64} {f22 : Nat → Int32} {x t k i : Int32} {r : Int64} (h : (f22 (slN x t k)).toInt = 0) (hb : 1 ≤ (f21 (slN x t k)).toInt) (e : (i.toInt = 0 ∧ r = f20 (slN x t k)) ∨ (i.toInt ≠ 0 ∧ r = f21 (slN x t k))) : partW (tabW f20 f21 f22 x t k) i r := by
  rw [tab_y h]
  exact Or.inr ⟨(show (f21 (slN x t k)).toInt ≠ 0 by omega), e⟩
theorem part_mm {b i : Int32} {u v r : Int64} (h : ¬ b.toInt = 0) (e : r.toInt = -4611686018427387909) : partW (mpW b u v) i r := by
  rw [mp_n h]
  exact Or.inl ⟨by decide, e⟩
theorem part_mv {b i : Int32} {u v r : Int64} (h : b.toInt = 0) (hb : 1 ≤ v.toInt) (e : (i.toInt = 0 ∧ r = u) ∨ (i.toInt ≠ 0 ∧ r = v)) : partW (mpW b u v) i r := by
  rw [mp_y h]
  exact Or.inr ⟨(show v.toInt ≠ 0 by omega), e⟩
theorem avg_tv {l : Nat → Int32} {T V : vaF} {x t k : Int32} (h : ∀ t s : Int32, spK t s → T x t s = V x t s) (ht : 0 ≤ t.toInt ∧ t.toInt ≤ 5) (hk : 0 ≤ k.toInt ∧ k.toInt ≤ t.toInt) : avgW l T x t k = avgW l V x t k := by
  have e := inc1 (i := t) (n := 6) (by omega) (by decide +kernel)
  have e2 := inc1 (i := k) (n := 6) (by omega) (by decide +kernel)
  exact avg_ext ⟨rfl, rfl, rfl, rfl⟩ ⟨h (t + 1) (k + 1) ⟨⟨by omega, by omega⟩, by omega, by omega⟩, h (t + 1) k ⟨⟨by omega, by omega⟩, by omega, by omega⟩⟩
/-! taken -/
theorem tkM_y {l fc : Nat → Int32} {f20 f21 : Nat → Int64} {f22 : Nat → Int32} {x p t c sp r n : Int32} {u v : Int64} (hc : c = fc x.toNatClampNeg) (hs : sp = spW p t) (hr : r = f22 (slN c t sp)) (h2 : r.toInt = 0 → mpW n u v = avgW l (tabW f20 f21 f22) x t sp) (hn : ¬ n.toInt = 0) : tkM l fc (tabW f20 f21 f22) x p t := by
  subst hc
  subst hs
  unfold tkM
  by_cases h : r.toInt = 0
  · refine Or.inr ?_
    have e := h2 h
    rw [mp_n hn] at e
    rw [← e]
    decide
  · exact Or.inl (tab_m0 (by rw [← hr]; exact h))
theorem tk_of {l fc : Nat → Int32} {f20 f21 : Nat → Int64} {f22 : Nat → Int32} {x p t c sp r n m : Int32} {u v : Int64} (hc : c = fc x.toNatClampNeg) (hs : sp = spW p t) (hr : r = f22 (slN c t sp)) (h2 : r.toInt = 0 → mpW n u v = avgW l (tabW f20 f21 f22) x t sp) (h3 : n.toInt = 0 → r.toInt = 0) (hn : n.toInt = 0) (hb : 1 ≤ (f21 (slN c t sp)).toInt) (hv : 1 ≤ v.toInt) (q : m.toInt = cmpW (f20 (slN c t sp)).toInt (f21 (slN c t sp)).toInt u.toInt v.toInt) : ¬ tkM l fc (tabW f20 f21 f22) x p t ∧ tkS l fc (tabW f20 f21 f22) x p t = m.toInt := by
  subst hc
  subst hs
  have h := h3 hn
  have e := h2 h
  rw [mp_y hn] at e
  have h0 : (f22 (slN (fc x.toNatClampNeg) t (spW p t))).toInt = 0 := by rw [← hr]; exact h
  refine ⟨fun g => ?_, ?_⟩
  · unfold tkM at g
    rcases g with g | g
    · exact tab_m1 h0 hb g
    · rw [← e] at g
      have g : v.toInt = 0 := g
      omega
  · unfold tkS
    rw [← e, tab_y h0, q]
    rfl
theorem takQ_ext {l l' fc fc' : Nat → Int32} {T V : vaF} {e : Int} {x p t0 r : Int32} (he : e ≤ 6) (h0 : 0 ≤ t0.toInt) (hp : 0 ≤ p.toInt ∧ p.toInt ≤ 63) (hc : ∀ t s : Int32, spK t s → T (fc x.toNatClampNeg) t s = V (fc' x.toNatClampNeg) t s) (hx : ∀ t k : Int32, spK t k → t.toInt ≤ 5 → avgW l T x t k = avgW l' V x t k) (a : takQ l fc T e x p t0 r) : takQ l' fc' V e x p t0 r := by
  have key : ∀ t : Int32, t0.toInt ≤ t.toInt → t.toInt < e → (tkM l fc T x p t ↔ tkM l' fc' V x p t) ∧ tkS l fc T x p t = tkS l' fc' V x p t := fun t a b => by
    have hs : 0 ≤ (spW p t).toInt ∧ (spW p t).toInt ≤ t.toInt := spot_in hp ⟨by omega, by omega⟩
    have e1 := hc t (spW p t) ⟨⟨by omega, by omega⟩, hs.1, hs.2⟩
    have e2 := hx t (spW p t) ⟨⟨by omega, by omega⟩, hs.1, hs.2⟩ (by omega)
    unfold tkM tkS
    rw [e1, e2]
    exact ⟨Iff.rfl, rfl⟩
  have kn : ∀ t : Int32, t0.toInt ≤ t.toInt → t.toInt < e → tkN l fc T x p t → tkN l' fc' V x p t := fun t a b g => by
    obtain ⟨k1, k2⟩ := key t a b
    exact ⟨fun q => g.1 (k1.2 q), by rw [← k2]; exact g.2⟩
  rcases a with ⟨a1, t, a2, a3, a4, a5⟩ | ⟨a1, a2, a3, a4⟩
  · exact Or.inl ⟨a1, t, a2, a3, ((key t a2 a3).1).1 a4, fun s b1 b2 => kn s b1 (by omega) (a5 s b1 b2)⟩
  · refine Or.inr ⟨a1, a2, fun q => ?_, fun s b1 b2 => kn s b1 (by omega) (a4 s b1 b2)⟩
    obtain ⟨k1, k2⟩ := key r a1 q
    exact ⟨fun g => (a3 q).1 (k1.2 g), by rw [← k2]; exact (a3 q).2⟩
theorem tkQ_uniq {l l' fk fk' fc fc' fe fe' : Nat → Int32} {V V' : vaF} {n x t p r r' : Int32} (hk : inN n x → fk x.toNatClampNeg = fk' x.toNatClampNeg ∧ fe x.toNatClampNeg = fe' x.toNatClampNeg ∧ (fe x.toNatClampNeg).toInt ≤ 6) (hc : inN n x → (fk x.toNatClampNeg).toNatClampNeg = 11 → ∀ t s : Int32, spK t s → V' (fc' x.toNatClampNeg) t s = V (fc x.toNatClampNeg) t s) (hx : inN n x → ∀ t k : Int32, spK t k → t.toInt ≤ 5 → avgW l' V' x t k = avgW l V x t k) (a : tkQ l fk fc fe V n x t p r) (b : tkQ l' fk' fc' fe' V' n x t p r') : r = r' := by
  unfold tkQ at a b
  by_cases h : hadV n x t p
  · have hi : inN n x := h.1
    rw [← (hk hi).1, ← (hk hi).2.1] at b
    rcases a with ⟨a1, a2⟩ | ⟨a1, a2⟩
    · have b := b.resolve_right (fun q => a1 q.1)
      exact Int32.toInt_inj.1 (by omega)
    · have b := (b.resolve_left (fun q => q.1 a1)).2
      rcases a2 with ⟨a2, a3⟩ | ⟨a2, a3⟩
      · rcases b with ⟨_, b3⟩ | ⟨b2, _⟩
        · exact Int32.toInt_inj.1 (by omega)
        · exact absurd a2 b2
      · rcases b with ⟨b2, _⟩ | ⟨_, b3⟩
        · exact absurd b2 a2
        · exact takQ_uniq a3 (takQ_ext (hk hi).2.2 h.2.1.1 h.2.2 (hc hi a1.2) (hx hi) b3)
  · have a := a.resolve_right (fun q => h q.1.1)
    have b := b.resolve_right (fun q => h q.1.1)
    exact Int32.toInt_inj.1 (by omega)
/-! most -/
def moI (V : vaF) (x t ss be ov : Int32) : Prop := (ov.toInt = 0 ∧ (∀ k : Int32, 0 ≤ k.toInt → k.toInt < ss.toInt → ¬ (V x t k).2.toInt = 0) ∧ ((ss.toInt = 0 ∧ be.toInt = 0) ∨ bestI (V x t) be ss)) ∨ (¬ ov.toInt = 0 ∧ ∃ k : Int32, (0 ≤ k.toInt ∧ k.toInt < ss.toInt) ∧ (V x t k).2.toInt = 0)
theorem moI_0 {V : vaF} {x t : Int32} : moI V x t 0 0 0 := Or.inl ⟨ti_0, fun k a b => by rw [ti_0] at b; omega, Or.inl ⟨ti_0, ti_0⟩⟩
theorem moI_step {V : vaF} {x t ss s' be be' ov z o' r : Int32} (h : moI V x t ss be ov) (h0 : 0 ≤ ss.toInt) (hi : s'.toInt = ss.toInt + 1) (hz : z.toInt = 0 ↔ ¬ (V x t ss).2.toInt = 0) (ho : o'.toInt = 0 ↔ (ov.toInt = 0 ∧ z.toInt = 0)) (hc : ¬ (V x t ss).2.toInt = 0 → ¬ (V x t be).2.toInt = 0 → cmpP (V x t ss) (V x t be) = r.toInt) (hl : ∀ k : Int32, lowW (V x t k)) (hb : (0 < r.toInt ∧ be' = ss) ∨ (r.toInt ≤ 0 ∧ be' = be)) : moI V x t s' be' o' := by
  by_cases hm : (V x t ss).2.toInt = 0
  · refine Or.inr ⟨fun q => hz.1 (ho.1 q).2 hm, ss, by omega, hm⟩
  · rcases h with ⟨a1, a2, a3⟩ | ⟨a1, k, a2, a3⟩
    · have ho := ho.2 ⟨a1, hz.2 hm⟩
      have hall : ∀ k : Int32, 0 ≤ k.toInt → k.toInt ≤ ss.toInt → ¬ (V x t k).2.toInt = 0 := nm_le (P := fun k9 => ¬ (V x t k9).2.toInt = 0) a2 hm
      refine Or.inl ⟨ho, nm_s (P := fun k9 => ¬ (V x t k9).2.toInt = 0) a2 hm hi, Or.inr ?_⟩
      rcases a3 with ⟨b1, b2⟩ | b
      · have e1 : be = ss := Int32.toInt_inj.1 (by omega)
        subst e1
        have hc := hc hm hm
        rw [cmpP_refl] at hc
        have e2 := (hb.resolve_left (fun q => by omega)).2
        subst e2
        have e3 : be' = 0 := Int32.toInt_inj.1 (by rw [ti_0]; omega)
        have e4 : s' = 1 := Int32.toInt_inj.1 (by rw [ti_1]; omega)
        subst e3
        subst e4
        exact best_0
      · have hbe := hall be b.1.1 (by have := b.1.2; omega)
        have hc := hc hm hbe
        rcases hb with ⟨c1, c2⟩ | ⟨c1, c2⟩
        · subst c2
          exact best_gt b hi (fun j d1 d2 => low_pos (hl j) (hall j d1 d2)) (by omega)
        · subst c2
          exact best_le b hi (by omega)
    · exact Or.inr ⟨fun q => a1 (ho.1 q).1, k, by omega, a3⟩
theorem moI_end {V : vaF} {n x t ss be ov r : Int32} (hv : (0 ≤ x.toInt ∧ x.toInt < n.toInt) ∧ 0 ≤ t.toInt ∧ t.toInt ≤ 6) (h : moI V x t ss be ov) (hs : ss.toInt = t.toInt + 1) (hr : (ov.toInt = 0 ∧ r = be) ∨ (¬ ov.toInt = 0 ∧ r.toInt = -5)) : mostQ V n x t r := by
  rcases h with ⟨a1, a2, a3⟩ | ⟨a1, k, a2, a3⟩
  · have e := (hr.resolve_right (fun q => q.1 a1)).2
    subst e
    have b := a3.resolve_left (fun q => by omega)
    exact most_of hv b hs a2
  · have e := (hr.resolve_left (fun q => a1 q.1)).2
    exact most_mu hv (k := k) ⟨hv.2, by omega, by omega⟩ a3 e
/-! bags -/
def bbJ (V : vaF) (n : Int32) (f : Nat → Int32) (t k m b ov : Int32) : Prop := (ov.toInt = 0 ∧ bbI V n f t k m b) ∨ (¬ ov.toInt = 0 ∧ ∃ i : Int32, (0 ≤ i.toInt ∧ i.toInt < m.toInt) ∧ inN n (f i.toNatClampNeg) ∧ (V (f i.toNatClampNeg) t k).2.toInt = 0)
theorem bbJ_0 {V : vaF} {n : Int32} {f : Nat → Int32} {t k : Int32} : bbJ V n f t k 0 (-1) 0 := Or.inl ⟨ti_0, bbI_0⟩
theorem bbJ_skip {V : vaF} {n : Int32} {f : Nat → Int32} {t k m b m' ov : Int32} (h : bbJ V n f t k m b ov) (hi : m'.toInt = m.toInt + 1) (c : ¬ inN n (f m.toNatClampNeg)) : bbJ V n f t k m' b ov := by
  rcases h with ⟨a1, a2⟩ | ⟨a1, i, a2, a3, a4⟩
  · exact Or.inl ⟨a1, bbI_skip a2 hi c⟩
  · exact Or.inr ⟨a1, i, by omega, a3, a4⟩
theorem bbJ_step {V : vaF} {n : Int32} {f : Nat → Int32} {t k m b b' m' ov z o' : Int32} (h : bbJ V n f t k m b ov) (h0 : 0 ≤ m.toInt) (hi : m'.toInt = m.toInt + 1) (hn : inN n (f m.toNatClampNeg)) (hz : z.toInt = 0 ↔ ¬ (V (f m.toNatClampNeg) t k).2.toInt = 0) (ho : o'.toInt = 0 ↔ (ov.toInt = 0 ∧ z.toInt = 0)) (hl : ∀ i : Int32, lowW (V (f i.toNatClampNeg) t k)) (hb : (b' = m ∧ (b.toInt = -1 ∨ (¬ b.toInt = -1 ∧ (¬ (V (f m.toNatClampNeg) t k).2.toInt = 0 → ¬ (V (f b.toNatClampNeg) t k).2.toInt = 0 → 0 < cmpP (V (f m.toNatClampNeg) t k) (V (f b.toNatClampNeg) t k))))) ∨ (b' = b ∧ ¬ b.toInt = -1 ∧ (¬ (V (f m.toNatClampNeg) t k).2.toInt = 0 → ¬ (V (f b.toNatClampNeg) t k).2.toInt = 0 → cmpP (V (f m.toNatClampNeg) t k) (V (f b.toNatClampNeg) t k) ≤ 0))) : bbJ V n f t k m' b' o' := by
  by_cases hm : (V (f m.toNatClampNeg) t k).2.toInt = 0
  · exact Or.inr ⟨fun q => hz.1 (ho.1 q).2 hm, m, by omega, hn, hm⟩
  · rcases h with ⟨a1, a2⟩ | ⟨a1, i, a2, a3, a4⟩
    · have ho := ho.2 ⟨a1, hz.2 hm⟩
      have hbm : ¬ b.toInt = -1 → ¬ (V (f b.toNatClampNeg) t k).2.toInt = 0 := fun q => by
        obtain ⟨c1, c2⟩ := a2
        rcases c2 with ⟨c2, _⟩ | ⟨c2, c3, _⟩
        · exact absurd c2 q
        · exact c1 b c2 c3
      refine Or.inl ⟨ho, ?_⟩
      rcases hb with ⟨e, hb⟩ | ⟨e, q, hb⟩
      · subst e
        rcases hb with hb | ⟨q, hb⟩
        · exact bbI_take a2 h0 hi hn hm hl (Or.inl hb)
        · exact bbI_take a2 h0 hi hn hm hl (Or.inr (hb hm (hbm q)))
      · subst e
        exact bbI_keep a2 hi hm q (hb hm (hbm q))
    · exact Or.inr ⟨fun q => a1 (ho.1 q).1, i, by omega, a3, a4⟩
theorem bbJ_end {V : vaF} {n z : Int32} {f : Nat → Int32} {ok : Prop} {t k m b ov r : Int32} (hv : ok ∧ spK t k) (h : bbJ V n f t k m b ov) (h1 : ¬ m.toInt < z.toInt) (h2 : m.toInt ≤ z.toInt) (hr : (ov.toInt = 0 ∧ r = b) ∨ (¬ ov.toInt = 0 ∧ r.toInt = -5)) : bbQ V n z f ok t k r := by
  rcases h with ⟨a1, a2⟩ | ⟨a1, i, a2, a3, a4⟩
  · have e := (hr.resolve_right (fun q => q.1 a1)).2
    subst e
    exact bb_of hv (bb_end a2 h1 h2)
  · have e := (hr.resolve_left (fun q => a1 q.1)).2
    exact Or.inr ⟨hv, Or.inl ⟨⟨i, by omega, a3, a4⟩, e⟩⟩
theorem or_iff {x y : Int32} (hx : isB x) (hy : isB y) : (x ||| y).toInt = 0 ↔ (x.toInt = 0 ∧ y.toInt = 0) := ⟨fun h => isB.or0 hx hy h, fun h => or_00 h.1 h.2⟩
theorem mz_iff {f20 f21 : Nat → Int64} {f22 : Nat → Int32} {x t k z : Int32} {q : Int64 × Int64} (e : tabW f20 f21 f22 x t k = q) (h : z = f22 (slN x t k)) (hb : 1 ≤ (f21 (slN x t k)).toInt) : z.toInt = 0 ↔ ¬ q.2.toInt = 0 := by
  rw [← e, tab_mu hb, h]
  exact ⟨fun a b => b a, fun a => Classical.not_not.mp a⟩
theorem cm_of {f20 f21 : Nat → Int64} {f22 : Nat → Int32} {x t k y t' k' r : Int32} {p q : Int64 × Int64} (e1 : tabW f20 f21 f22 x t k = p) (e2 : tabW f20 f21 f22 y t' k' = q) (hb1 : 1 ≤ (f21 (slN x t k)).toInt) (hb2 : 1 ≤ (f21 (slN y t' k')).toInt) (h : r.toInt = cmpW (f20 (slN x t k)).toInt (f21 (slN x t k)).toInt (f20 (slN y t' k')).toInt (f21 (slN y t' k')).toInt) (n1 : ¬ p.2.toInt = 0) (n2 : ¬ q.2.toInt = 0) : cmpP p q = r.toInt := by
  have m1 : (f22 (slN x t k)).toInt = 0 := by
    rw [← e1, tab_mu hb1] at n1
    exact Classical.not_not.mp n1
  have m2 : (f22 (slN y t' k')).toInt = 0 := by
    rw [← e2, tab_mu hb2] at n2
    exact Classical.not_not.mp n2
  rw [← e1, ← e2, tab_cmp m1 m2, h]
theorem m0_of {f20 f21 : Nat → Int64} {f22 : Nat → Int32} {x t k z : Int32} {q : Int64 × Int64} (e : tabW f20 f21 f22 x t k = q) (h : z = f22 (slN x t k)) (c : ¬ z.toInt = 0) : q.2.toInt = 0 := by
  rw [← e]
  exact tab_m0 (by rw [← h]; exact c)
theorem m1_of {f20 f21 : Nat → Int64} {f22 : Nat → Int32} {x t k z : Int32} {q : Int64 × Int64} (e : tabW f20 f21 f22 x t k = q) (h : z = f22 (slN x t k)) (hb : 1 ≤ (f21 (slN x t k)).toInt) (c : z.toInt = 0) : ¬ q.2.toInt = 0 := (mz_iff e h hb).1 c
/-! alike, slot by slot -/
theorem sl_ex (x : Int32) : ∀ j : Nat, j < 28 → ∃ t k : Int32, spK t k ∧ slN x t k = 28 * x.toNatClampNeg + j := by
  intro j hj
  have key : ∀ a : Fin 28, ∃ b : Fin 7, ∃ c : Fin 7, c.val ≤ b.val ∧ trN b.val + c.val = a.val := by decide +kernel
  obtain ⟨b, c, h1, h2⟩ := key ⟨j, hj⟩
  have hb := b.isLt
  have hc := c.isLt
  refine ⟨nI b.val, nI c.val, ⟨?_, ?_⟩, ?_⟩
  · rw [nI_toInt (by omega)]
    omega
  · rw [nI_toInt (by omega), nI_toInt (by omega)]
    omega
  · unfold slN
    rw [nI_clamp (by omega), nI_clamp (by omega)]
    have h2 : trN b.val + c.val = j := h2
    omega
theorem sl_j {x t k : Int32} (g : spK t k) : ∃ j : Nat, j < 28 ∧ slN x t k = 28 * x.toNatClampNeg + j := by
  obtain ⟨⟨a, b⟩, c, d⟩ := g
  have h2 := tn a
  have h3 := tn c
  have h4 := trN_le (t := t.toNatClampNeg) (by omega)
  exact ⟨trN t.toNatClampNeg + k.toNatClampNeg, by omega, by unfold slN; omega⟩
/-- behind m slots of both -/
def akI (g0 g1 : Nat → Int64) (g2 : Nat → Int32) (E : Prop) (a b m : Nat) (ov is : Int32) : Prop := ((ov.toInt = 0 ∧ ∀ j : Nat, j < m → (g2 (a + j)).toInt = 0 ∧ (g2 (b + j)).toInt = 0) ∨ (¬ ov.toInt = 0 ∧ ∃ j : Nat, j < m ∧ (¬ (g2 (a + j)).toInt = 0 ∨ ¬ (g2 (b + j)).toInt = 0))) ∧ ((is.toInt = 1 ∧ E ∧ ∀ j : Nat, j < m → g0 (a + j) = g0 (b + j) ∧ g1 (a + j) = g1 (b + j)) ∨ (is.toInt = 0 ∧ ¬ (E ∧ ∀ j : Nat, j < m → g0 (a + j) = g0 (b + j) ∧ g1 (a + j) = g1 (b + j))))
theorem akI_0y {g0 g1 : Nat → Int64} {g2 : Nat → Int32} {E : Prop} {a b : Nat} (h : E) : akI g0 g1 g2 E a b 0 0 1 := ⟨Or.inl ⟨ti_0, fun j h => absurd h (Nat.not_lt_zero j)⟩, Or.inl ⟨ti_1, h, fun j h => absurd h (Nat.not_lt_zero j)⟩⟩
theorem akI_0n {g0 g1 : Nat → Int64} {g2 : Nat → Int32} {E : Prop} {a b : Nat} (h : ¬ E) : akI g0 g1 g2 E a b 0 0 0 := ⟨Or.inl ⟨ti_0, fun j h => absurd h (Nat.not_lt_zero j)⟩, Or.inr ⟨ti_0, fun q => h q.1⟩⟩
theorem akI_step {g0 g1 : Nat → Int64} {g2 : Nat → Int32} {E : Prop} {a b m : Nat} {ov is o' i' : Int32} (h : akI g0 g1 g2 E a b m ov is) (ho : (o'.toInt = 0 ∧ ov.toInt = 0 ∧ (g2 (a + m)).toInt = 0 ∧ (g2 (b + m)).toInt = 0) ∨ (¬ o'.toInt = 0 ∧ (¬ ov.toInt = 0 ∨ ¬ (g2 (a + m)).toInt = 0 ∨ ¬ (g2 (b + m)).toInt = 0))) (hi : (i'.toInt = is.toInt ∧ g0 (a + m) = g0 (b + m) ∧ g1 (a + m) = g1 (b + m)) ∨ (i'.toInt = 0 ∧ ¬ (g0 (a + m) = g0 (b + m) ∧ g1 (a + m) = g1 (b + m)))) : akI g0 g1 g2 E a b (m + 1) o' i' := by
  obtain ⟨h1, h2⟩ := h
  refine ⟨?_, ?_⟩
  · rcases ho with ⟨c1, c2, c3, c4⟩ | ⟨c1, c2⟩
    · have h1 := (h1.resolve_right (fun q => q.1 c2)).2
      refine Or.inl ⟨c1, fun j hj => ?_⟩
      by_cases e : j = m
      · subst e
        exact ⟨c3, c4⟩
      · exact h1 j (by omega)
    · refine Or.inr ⟨c1, ?_⟩
      rcases c2 with c2 | c2 | c2
      · obtain ⟨_, j, q1, q2⟩ := h1.resolve_left (fun q => c2 q.1)
        exact ⟨j, by omega, q2⟩
      · exact ⟨m, by omega, Or.inl c2⟩
      · exact ⟨m, by omega, Or.inr c2⟩
  · rcases hi with ⟨c1, c2⟩ | ⟨c1, c2⟩
    · rcases h2 with ⟨d1, d2, d3⟩ | ⟨d1, d2⟩
      · refine Or.inl ⟨by omega, d2, fun j hj => ?_⟩
        by_cases e : j = m
        · subst e
          exact c2
        · exact d3 j (by omega)
      · exact Or.inr ⟨by omega, fun q => d2 ⟨q.1, fun j hj => q.2 j (by omega)⟩⟩
    · exact Or.inr ⟨c1, fun q => c2 (q.2 m (by omega))⟩
theorem akI_end {g0 g1 : Nat → Int64} {g2 : Nat → Int32} {V : vaF} {fe : Nat → Int32} {n x y ov is r : Int32} (hv : (0 ≤ x.toInt ∧ x.toInt < n.toInt) ∧ 0 ≤ y.toInt ∧ y.toInt < n.toInt) (hV : ∀ t s : Int32, spK t s → tabW g0 g1 g2 x t s = V x t s ∧ tabW g0 g1 g2 y t s = V y t s) (hb : ∀ t s : Int32, spK t s → 1 ≤ (g1 (slN x t s)).toInt ∧ 1 ≤ (g1 (slN y t s)).toInt) (h : akI g0 g1 g2 ((fe x.toNatClampNeg).toInt = (fe y.toNatClampNeg).toInt) (28 * x.toNatClampNeg) (28 * y.toNatClampNeg) 28 ov is) (hr : (¬ ov.toInt = 0 ∧ r.toInt = -5) ∨ (ov.toInt = 0 ∧ ((is.toInt = 0 ∧ r.toInt = 0) ∨ (¬ is.toInt = 0 ∧ r.toInt = 1)))) : alkQ V fe n x y r := by
  obtain ⟨h1, h2⟩ := h
  refine Or.inr ⟨hv, ?_⟩
  rcases h1 with ⟨c1, c2⟩ | ⟨c1, j, c2, c3⟩
  · have hr := (hr.resolve_left (fun q => q.1 c1)).2
    have hz : ∀ t s : Int32, spK t s → (g2 (slN x t s)).toInt = 0 ∧ (g2 (slN y t s)).toInt = 0 := fun t s g => by
      obtain ⟨j, j1, j2⟩ := sl_j (x := x) g
      have j3 : slN y t s = 28 * y.toNatClampNeg + j := by unfold slN at j2 ⊢; omega
      rw [j2, j3]
      exact c2 j j1
    refine Or.inr ⟨fun t s g q => ?_, ?_⟩
    · unfold mu2 at q
      rw [← (hV t s g).1, ← (hV t s g).2] at q
      rcases q with q | q
      · exact tab_m1 (hz t s g).1 (hb t s g).1 q
      · exact tab_m1 (hz t s g).2 (hb t s g).2 q
    · have he : (∀ j : Nat, j < 28 → g0 (28 * x.toNatClampNeg + j) = g0 (28 * y.toNatClampNeg + j) ∧ g1 (28 * x.toNatClampNeg + j) = g1 (28 * y.toNatClampNeg + j)) ↔ ∀ t s : Int32, spK t s → V x t s = V y t s := by
        constructor
        · intro q t s g
          obtain ⟨j, j1, j2⟩ := sl_j (x := x) g
          have j3 : slN y t s = 28 * y.toNatClampNeg + j := by unfold slN at j2 ⊢; omega
          rw [← (hV t s g).1, ← (hV t s g).2, tab_y (hz t s g).1, tab_y (hz t s g).2, j2, j3, (q j j1).1, (q j j1).2]
        · intro q j hj
          obtain ⟨t, s, g, e⟩ := sl_ex x j hj
          have e2 : slN y t s = 28 * y.toNatClampNeg + j := by unfold slN at e ⊢; omega
          have q := q t s g
          rw [← (hV t s g).1, ← (hV t s g).2, tab_y (hz t s g).1, tab_y (hz t s g).2, e, e2] at q
          exact ⟨congrArg Prod.fst q, congrArg Prod.snd q⟩
      rcases h2 with ⟨d1, d2, d3⟩ | ⟨d1, d2⟩
      · exact Or.inl ⟨⟨d2, he.1 d3⟩, (hr.resolve_left (fun q => by omega)).2⟩
      · exact Or.inr ⟨fun q => d2 ⟨q.1, he.2 q.2⟩, (hr.resolve_right (fun q => q.1 d1)).2⟩
  · have hr := (hr.resolve_right (fun q => c1 q.1)).2
    obtain ⟨t, s, g, e⟩ := sl_ex x j c2
    have e2 : slN y t s = 28 * y.toNatClampNeg + j := by unfold slN at e ⊢; omega
    refine Or.inl ⟨⟨t, s, g, ?_⟩, hr⟩
    unfold mu2
    rw [← (hV t s g).1, ← (hV t s g).2]
    rcases c3 with c3 | c3
    · exact Or.inl (tab_m0 (by rw [e]; exact c3))
    · exact Or.inr (tab_m0 (by rw [e2]; exact c3))
theorem ak_ix {x k : Int32} (hx : 0 ≤ x.toInt ∧ x.toInt < 24) (hk : 0 ≤ k.toInt ∧ k.toInt < 28) : ((28 * x) + k).toNatClampNeg = 28 * x.toNatClampNeg + k.toNatClampNeg := by
  have e28 : (28 : Int32).toInt = 28 := by decide
  have e : (28 * x).toInt = 28 * x.toInt := by rw [fb_mulI (by rw [e28]; omega) (by rw [e28]; omega), e28]
  have e2 : ((28 * x) + k).toInt = 28 * x.toInt + k.toInt := by rw [fb_addI (by rw [e]; omega) (by rw [e]; omega), e]
  have t1 := tn hx.1
  have t2 := tn hk.1
  have t3 := tn (x := (28 * x) + k) (by omega)
  omega
theorem isBand1 {x : Int32} (h : isB x) : x &&& 1 = x := by
  rcases h with rfl | rfl <;> decide
theorem isBand0 {x : Int32} (h : isB x) : x &&& 0 = 0 := by
  rcases h with rfl | rfl <;> decide
/-- what lies in a bag of the row -/
def gbB (f : Nat → Int32) (b : Int32) : Nat → Int32 := fun i => f (12 * b.toNatClampNeg + i)
theorem cp_of {f20 f21 : Nat → Int64} {f22 : Nat → Int32} {x t k : Int32} {q : Int64 × Int64} {c d : Int64} (e : tabW f20 f21 f22 x t k = q) (h0 : (f22 (slN x t k)).toInt = 0) : cmpP q (c, d) = cmpW (f20 (slN x t k)).toInt (f21 (slN x t k)).toInt c.toInt d.toInt := by
  rw [← e, tab_y h0]
  rfl
end
