section
theorem dX12_read_0 : decode cX12_read 0 = .ok (.iload_n 3, 1) := by decide +kernel
theorem dX12_read_1 : decode cX12_read 1 = .ok (.iconst 0, 1) := by decide +kernel
theorem dX12_read_102 : decode cX12_read 102 = .ok (.invokestatic 217, 3) := by decide +kernel
theorem dX12_read_105 : decode cX12_read 105 = .ok (.lreturn, 1) := by decide +kernel
theorem dX12_read_12 : decode cX12_read 12 = .ok (.lreturn, 1) := by decide +kernel
theorem dX12_read_13 : decode cX12_read 13 = .ok (.aload_n 0, 1) := by decide +kernel
theorem dX12_read_14 : decode cX12_read 14 = .ok (.iload_n 1, 1) := by decide +kernel
theorem dX12_read_15 : decode cX12_read 15 = .ok (.iload_n 2, 1) := by decide +kernel
theorem dX12_read_16 : decode cX12_read 16 = .ok (.invokevirtual 321, 3) := by decide +kernel
theorem dX12_read_19 : decode cX12_read 19 = .ok (.istore 4, 2) := by decide +kernel
theorem dX12_read_2 : decode cX12_read 2 = .ok (.iconst 3, 1) := by decide +kernel
theorem dX12_read_21 : decode cX12_read 21 = .ok (.iload 4, 2) := by decide +kernel
theorem dX12_read_23 : decode cX12_read 23 = .ok (.ifCond .eq 11, 3) := by decide +kernel
theorem dX12_read_26 : decode cX12_read 26 = .ok (.ldc2_w 324, 3) := by decide +kernel
theorem dX12_read_29 : decode cX12_read 29 = .ok (.iload 4, 2) := by decide +kernel
theorem dX12_read_3 : decode cX12_read 3 = .ok (.invokestatic 77, 3) := by decide +kernel
theorem dX12_read_31 : decode cX12_read 31 = .ok (.i2l, 1) := by decide +kernel
theorem dX12_read_32 : decode cX12_read 32 = .ok (.ladd, 1) := by decide +kernel
theorem dX12_read_33 : decode cX12_read 33 = .ok (.lreturn, 1) := by decide +kernel
theorem dX12_read_34 : decode cX12_read 34 = .ok (.aload_n 0, 1) := by decide +kernel
theorem dX12_read_35 : decode cX12_read 35 = .ok (.getfield 65, 3) := by decide +kernel
theorem dX12_read_38 : decode cX12_read 38 = .ok (.iload_n 1, 1) := by decide +kernel
theorem dX12_read_39 : decode cX12_read 39 = .ok (.aaload, 1) := by decide +kernel
theorem dX12_read_40 : decode cX12_read 40 = .ok (.astore 5, 2) := by decide +kernel
theorem dX12_read_42 : decode cX12_read 42 = .ok (.iload_n 3, 1) := by decide +kernel
theorem dX12_read_43 : decode cX12_read 43 = .ok (.tableswitch 47 0 2 #[25, 32, 40], 25) := by decide +kernel
theorem dX12_read_6 : decode cX12_read 6 = .ok (.ifCond .ne 7, 3) := by decide +kernel
theorem dX12_read_68 : decode cX12_read 68 = .ok (.aload 5, 2) := by decide +kernel
theorem dX12_read_70 : decode cX12_read 70 = .ok (.iload_n 2, 1) := by decide +kernel
theorem dX12_read_71 : decode cX12_read 71 = .ok (.invokevirtual 326, 3) := by decide +kernel
theorem dX12_read_74 : decode cX12_read 74 = .ok (.lreturn, 1) := by decide +kernel
theorem dX12_read_75 : decode cX12_read 75 = .ok (.aload 5, 2) := by decide +kernel
theorem dX12_read_77 : decode cX12_read 77 = .ok (.iload_n 2, 1) := by decide +kernel
theorem dX12_read_78 : decode cX12_read 78 = .ok (.invokevirtual 330, 3) := by decide +kernel
theorem dX12_read_81 : decode cX12_read 81 = .ok (.i2l, 1) := by decide +kernel
theorem dX12_read_82 : decode cX12_read 82 = .ok (.lreturn, 1) := by decide +kernel
theorem dX12_read_83 : decode cX12_read 83 = .ok (.aload 5, 2) := by decide +kernel
theorem dX12_read_85 : decode cX12_read 85 = .ok (.iload_n 2, 1) := by decide +kernel
theorem dX12_read_86 : decode cX12_read 86 = .ok (.invokevirtual 333, 3) := by decide +kernel
theorem dX12_read_89 : decode cX12_read 89 = .ok (.lreturn, 1) := by decide +kernel
theorem dX12_read_9 : decode cX12_read 9 = .ok (.ldc2_w 183, 3) := by decide +kernel
theorem dX12_read_90 : decode cX12_read 90 = .ok (.aload 5, 2) := by decide +kernel
theorem dX12_read_92 : decode cX12_read 92 = .ok (.iload_n 2, 1) := by decide +kernel
theorem dX12_read_93 : decode cX12_read 93 = .ok (.invokevirtual 336, 3) := by decide +kernel
theorem dX12_read_96 : decode cX12_read 96 = .ok (.ldc2_w 340, 3) := by decide +kernel
theorem dX12_read_99 : decode cX12_read 99 = .ok (.invokestatic 221, 3) := by decide +kernel
set_option maxRecDepth 20000 in
theorem ggX12_read_X12_placeFault : GoodIn wsX12_read wsX12_placeFault := goodIn_r _ [12, 3, 13, 14, 5, 6, 7, 8, 57, 58, 59, 60, 61, 62, 63, 64, 65, 66, 67, 68, 69, 70, 71, 72, 73] rfl (by decide +kernel)
set_option maxRecDepth 20000 in
theorem ggX12_read_X12_within : GoodIn wsX12_read wsX12_within := goodIn_r _ [8] rfl (by decide +kernel)
set_option maxRecDepth 20000 in
theorem ggX12_read_X5_doubleBits : GoodIn wsX12_read wsX5_doubleBits := goodIn_r _ [39, 40, 30, 31, 27, 32, 33, 34, 35, 36] rfl (by decide +kernel)
set_option maxRecDepth 20000 in
theorem ggX12_read_X5_remainder : GoodIn wsX12_read wsX5_remainder := goodIn_r _ [55, 33] rfl (by decide +kernel)
set_option maxRecDepth 20000 in
theorem ggX12_read_X9_asDouble : GoodIn wsX12_read wsX9_asDouble := goodIn_r _ [52, 20, 21, 22, 23, 24, 68, 69, 70, 71, 72, 73] rfl (by decide +kernel)
set_option maxRecDepth 20000 in
theorem ggX12_read_X9_asInt : GoodIn wsX12_read wsX9_asInt := goodIn_r _ [44, 20, 21, 22, 23, 24, 68, 69, 70, 71, 72, 73] rfl (by decide +kernel)
set_option maxRecDepth 20000 in
theorem ggX12_read_X9_asItIs : GoodIn wsX12_read wsX9_asItIs := goodIn_r _ [19, 20, 21, 22, 23, 24, 25, 26, 27, 28, 29, 30, 31, 32, 33, 34, 35, 36, 37, 38, 39, 40, 68, 69, 70, 71, 72, 73] rfl (by decide +kernel)
set_option maxRecDepth 20000 in
theorem ggX12_read_X9_asLong : GoodIn wsX12_read wsX9_asLong := goodIn_r _ [48, 20, 21, 22, 23, 24, 68, 69, 70, 71, 72, 73] rfl (by decide +kernel)
set_option maxRecDepth 20000 in
theorem gX12_read_X12_placeFault : GoodIn wsX12_read (wsV RX12 321 RX12 yX12_placeFault wsX12_placeFault) := goodIn_app (goodIn_r _ [9, 10, 11, 7] rfl (by decide +kernel)) ggX12_read_X12_placeFault
set_option maxRecDepth 20000 in
theorem gX12_read_X12_within : GoodIn wsX12_read (va_wsS RX12 77 yX12_within wsX12_within) := goodIn_app (goodIn_of _ (by decide +kernel)) ggX12_read_X12_within
set_option maxRecDepth 20000 in
theorem gX12_read_X5_doubleBits : GoodIn wsX12_read (va_wsS RX12 217 yX5_doubleBits wsX5_doubleBits) := goodIn_app (goodIn_of _ (by decide +kernel)) ggX12_read_X5_doubleBits
set_option maxRecDepth 20000 in
theorem gX12_read_X5_remainder : GoodIn wsX12_read (va_wsS RX12 221 yX5_remainder wsX5_remainder) := goodIn_app (goodIn_of _ (by decide +kernel)) ggX12_read_X5_remainder
set_option maxRecDepth 20000 in
theorem gX12_read_X9_asDouble : GoodIn wsX12_read (wsV RX12 336 RX9 yX9_asDouble wsX9_asDouble) := goodIn_app (goodIn_r _ [49, 50, 51, 18] rfl (by decide +kernel)) ggX12_read_X9_asDouble
set_option maxRecDepth 20000 in
theorem gX12_read_X9_asInt : GoodIn wsX12_read (wsV RX12 330 RX9 yX9_asInt wsX9_asInt) := goodIn_app (goodIn_r _ [41, 42, 43, 18] rfl (by decide +kernel)) ggX12_read_X9_asInt
set_option maxRecDepth 20000 in
theorem gX12_read_X9_asItIs : GoodIn wsX12_read (wsV RX12 326 RX9 yX9_asItIs wsX9_asItIs) := goodIn_app (goodIn_r _ [15, 16, 17, 18] rfl (by decide +kernel)) ggX12_read_X9_asItIs
set_option maxRecDepth 20000 in
theorem gX12_read_X9_asLong : GoodIn wsX12_read (wsV RX12 333 RX9 yX9_asLong wsX9_asLong) := goodIn_app (goodIn_r _ [45, 46, 47, 18] rfl (by decide +kernel)) ggX12_read_X9_asLong
theorem hs_X5_remainder : yX5_remainder.cls ≠ "java/lang/invoke/MethodHandle" ∧ yX5_remainder.cls ≠ "java/lang/invoke/VarHandle" ∧ (parseMethodDescriptor yX5_remainder.desc).map (fun d => d.parameters.length) = some 2 := by decide +kernel
theorem hv_X9_asDouble : yX9_asDouble.cls = RX9 ∧ yX9_asDouble.cls ≠ "java/lang/invoke/MethodHandle" ∧ yX9_asDouble.cls ≠ "java/lang/invoke/VarHandle" ∧ (parseMethodDescriptor yX9_asDouble.desc).map (fun d => d.parameters.length) = some 1 := by decide +kernel
theorem hv_X9_asInt : yX9_asInt.cls = RX9 ∧ yX9_asInt.cls ≠ "java/lang/invoke/MethodHandle" ∧ yX9_asInt.cls ≠ "java/lang/invoke/VarHandle" ∧ (parseMethodDescriptor yX9_asInt.desc).map (fun d => d.parameters.length) = some 1 := by decide +kernel
theorem hv_X9_asItIs : yX9_asItIs.cls = RX9 ∧ yX9_asItIs.cls ≠ "java/lang/invoke/MethodHandle" ∧ yX9_asItIs.cls ≠ "java/lang/invoke/VarHandle" ∧ (parseMethodDescriptor yX9_asItIs.desc).map (fun d => d.parameters.length) = some 1 := by decide +kernel
theorem hv_X9_asLong : yX9_asLong.cls = RX9 ∧ yX9_asLong.cls ≠ "java/lang/invoke/MethodHandle" ∧ yX9_asLong.cls ≠ "java/lang/invoke/VarHandle" ∧ (parseMethodDescriptor yX9_asLong.desc).map (fun d => d.parameters.length) = some 1 := by decide +kernel
set_option maxRecDepth 20000 in
theorem in_X12_read_X12 : ∀ w ∈ wsX120, w ∈ wsX12_read := sub_r [57, 58, 59, 60, 61, 62, 63, 64, 65, 66, 67] rfl
set_option maxHeartbeats 4000000 in
set_option maxRecDepth 100000 in
theorem c_X12_read (l : Launch) (D : va_G) (T : Nat → ClassId) (sz : Nat) (h0 : Nat) (h1 : Nat) (fs0 : List Value) (t0 : Nat) (t1 : Nat) (t2 : Nat) (t3 : Nat) (a00 : Nat) (a01 : Nat) (a02 : Nat) (a03 : Nat) (a10 : Nat) (a11 : Nat) (a12 : Nat) (a13 : Nat) (a20 : Nat) (a21 : Nat) (a22 : Nat) (a23 : Nat) (a30 : Nat) (a31 : Nat) (a32 : Nat) (a33 : Nat) (so : Nat → Int32) (sn : Nat → Int32) (si : Nat → Nat → Int32) (sl : Nat → Nat → Int64) (sf : Nat → Nat → UInt32) (sd : Nat → Nat → UInt64) (x1 : Int32) (x2 : Int32) (x3 : Int32) (e0_9 : fs0[9]? = some (.ref h1)) (hs0 : (-1 ≤ (so 0).toInt ∧ (so 0).toInt ≤ 3) ∧ 0 ≤ (sn 0).toInt ∧ (sn 0).toInt ≤ 30) (hs1 : (-1 ≤ (so 1).toInt ∧ (so 1).toInt ≤ 3) ∧ 0 ≤ (sn 1).toInt ∧ (sn 1).toInt ≤ 30) (hs2 : (-1 ≤ (so 2).toInt ∧ (so 2).toInt ≤ 3) ∧ 0 ≤ (sn 2).toInt ∧ (sn 2).toInt ≤ 30) (hs3 : (-1 ≤ (so 3).toInt ∧ (so 3).toInt ≤ 3) ∧ 0 ≤ (sn 3).toInt ∧ (sn 3).toInt ≤ 30) : MetD lw_cs l yX12_read wsX12_read ({ frames := 3, cells := 0, slots := 0, locals := 72 }) (pW [.ref h0, .int x1, .int x2, .int x3] D T [(h0, .inr (9, fs0)), (h1, .inl (T 6, 4, .inr (.inr (.inr (.inr (va_up (va_up (va_up (va_up (fun _ => none) 0 (some t0)) 1 (some t1)) 2 (some t2)) 3 (some t3))))))), (t0, .inr (6, [.int (so 0), .int (sn 0), .ref a00, .ref a01, .ref a02, .ref a03])), (t1, .inr (6, [.int (so 1), .int (sn 1), .ref a10, .ref a11, .ref a12, .ref a13])), (t2, .inr (6, [.int (so 2), .int (sn 2), .ref a20, .ref a21, .ref a22, .ref a23])), (t3, .inr (6, [.int (so 3), .int (sn 3), .ref a30, .ref a31, .ref a32, .ref a33])), (a00, .inl (T 0, 30, .inl (si 0))), (a01, .inl (T 1, 30, .inr (.inl (sl 0)))), (a02, .inl (T 2, 30, .inr (.inr (.inl (sf 0))))), (a03, .inl (T 3, 30, .inr (.inr (.inr (.inl (sd 0)))))), (a10, .inl (T 0, 30, .inl (si 1))), (a11, .inl (T 1, 30, .inr (.inl (sl 1)))), (a12, .inl (T 2, 30, .inr (.inr (.inl (sf 1))))), (a13, .inl (T 3, 30, .inr (.inr (.inr (.inl (sd 1)))))), (a20, .inl (T 0, 30, .inl (si 2))), (a21, .inl (T 1, 30, .inr (.inl (sl 2)))), (a22, .inl (T 2, 30, .inr (.inr (.inl (sf 2))))), (a23, .inl (T 3, 30, .inr (.inr (.inr (.inl (sd 2)))))), (a30, .inl (T 0, 30, .inl (si 3))), (a31, .inl (T 1, 30, .inr (.inl (sl 3)))), (a32, .inl (T 2, 30, .inr (.inr (.inl (sf 3))))), (a33, .inl (T 3, 30, .inr (.inr (.inr (.inl (sd 3))))))] sz) (va_Ql (fun (r : Int64) (u : Unit) => True) (bW D (va_A [(h0, .inr (9, fs0)), (h1, .inl (T 6, 4, .inr (.inr (.inr (.inr (va_up (va_up (va_up (va_up (fun _ => none) 0 (some t0)) 1 (some t1)) 2 (some t2)) 3 (some t3))))))), (t0, .inr (6, [.int (so 0), .int (sn 0), .ref a00, .ref a01, .ref a02, .ref a03])), (t1, .inr (6, [.int (so 1), .int (sn 1), .ref a10, .ref a11, .ref a12, .ref a13])), (t2, .inr (6, [.int (so 2), .int (sn 2), .ref a20, .ref a21, .ref a22, .ref a23])), (t3, .inr (6, [.int (so 3), .int (sn 3), .ref a30, .ref a31, .ref a32, .ref a33])), (a00, .inl (T 0, 30, .inl (si 0))), (a01, .inl (T 1, 30, .inr (.inl (sl 0)))), (a02, .inl (T 2, 30, .inr (.inr (.inl (sf 0))))), (a03, .inl (T 3, 30, .inr (.inr (.inr (.inl (sd 0)))))), (a10, .inl (T 0, 30, .inl (si 1))), (a11, .inl (T 1, 30, .inr (.inl (sl 1)))), (a12, .inl (T 2, 30, .inr (.inr (.inl (sf 1))))), (a13, .inl (T 3, 30, .inr (.inr (.inr (.inl (sd 1)))))), (a20, .inl (T 0, 30, .inl (si 2))), (a21, .inl (T 1, 30, .inr (.inl (sl 2)))), (a22, .inl (T 2, 30, .inr (.inr (.inl (sf 2))))), (a23, .inl (T 3, 30, .inr (.inr (.inr (.inl (sd 2)))))), (a30, .inl (T 0, 30, .inl (si 3))), (a31, .inl (T 1, 30, .inr (.inl (sl 3)))), (a32, .inl (T 2, 30, .inr (.inr (.inl (sf 3))))), (a33, .inl (T 3, 30, .inr (.inr (.inr (.inl (sd 3))))))] sz) (fun (u : Unit) => [(h0, .inr (9, fs0)), (h1, .inl (T 6, 4, .inr (.inr (.inr (.inr (va_up (va_up (va_up (va_up (fun _ => none) 0 (some t0)) 1 (some t1)) 2 (some t2)) 3 (some t3))))))), (t0, .inr (6, [.int (so 0), .int (sn 0), .ref a00, .ref a01, .ref a02, .ref a03])), (t1, .inr (6, [.int (so 1), .int (sn 1), .ref a10, .ref a11, .ref a12, .ref a13])), (t2, .inr (6, [.int (so 2), .int (sn 2), .ref a20, .ref a21, .ref a22, .ref a23])), (t3, .inr (6, [.int (so 3), .int (sn 3), .ref a30, .ref a31, .ref a32, .ref a33])), (a00, .inl (T 0, 30, .inl (si 0))), (a01, .inl (T 1, 30, .inr (.inl (sl 0)))), (a02, .inl (T 2, 30, .inr (.inr (.inl (sf 0))))), (a03, .inl (T 3, 30, .inr (.inr (.inr (.inl (sd 0)))))), (a10, .inl (T 0, 30, .inl (si 1))), (a11, .inl (T 1, 30, .inr (.inl (sl 1)))), (a12, .inl (T 2, 30, .inr (.inr (.inl (sf 1))))), (a13, .inl (T 3, 30, .inr (.inr (.inr (.inl (sd 1)))))), (a20, .inl (T 0, 30, .inl (si 2))), (a21, .inl (T 1, 30, .inr (.inl (sl 2)))), (a22, .inl (T 2, 30, .inr (.inr (.inl (sf 2))))), (a23, .inl (T 3, 30, .inr (.inr (.inr (.inl (sd 2)))))), (a30, .inl (T 0, 30, .inl (si 3))), (a31, .inl (T 1, 30, .inr (.inl (sl 3)))), (a32, .inl (T 2, 30, .inr (.inr (.inl (sf 3))))), (a33, .inl (T 3, 30, .inr (.inr (.inr (.inl (sd 3))))))])) (va_A [(h0, .inr (9, fs0)), (h1, .inl (T 6, 4, .inr (.inr (.inr (.inr (va_up (va_up (va_up (va_up (fun _ => none) 0 (some t0)) 1 (some t1)) 2 (some t2)) 3 (some t3))))))), (t0, .inr (6, [.int (so 0), .int (sn 0), .ref a00, .ref a01, .ref a02, .ref a03])), (t1, .inr (6, [.int (so 1), .int (sn 1), .ref a10, .ref a11, .ref a12, .ref a13])), (t2, .inr (6, [.int (so 2), .int (sn 2), .ref a20, .ref a21, .ref a22, .ref a23])), (t3, .inr (6, [.int (so 3), .int (sn 3), .ref a30, .ref a31, .ref a32, .ref a33])), (a00, .inl (T 0, 30, .inl (si 0))), (a01, .inl (T 1, 30, .inr (.inl (sl 0)))), (a02, .inl (T 2, 30, .inr (.inr (.inl (sf 0))))), (a03, .inl (T 3, 30, .inr (.inr (.inr (.inl (sd 0)))))), (a10, .inl (T 0, 30, .inl (si 1))), (a11, .inl (T 1, 30, .inr (.inl (sl 1)))), (a12, .inl (T 2, 30, .inr (.inr (.inl (sf 1))))), (a13, .inl (T 3, 30, .inr (.inr (.inr (.inl (sd 1)))))), (a20, .inl (T 0, 30, .inl (si 2))), (a21, .inl (T 1, 30, .inr (.inl (sl 2)))), (a22, .inl (T 2, 30, .inr (.inr (.inl (sf 2))))), (a23, .inl (T 3, 30, .inr (.inr (.inr (.inl (sd 2)))))), (a30, .inl (T 0, 30, .inl (si 3))), (a31, .inl (T 1, 30, .inr (.inl (sl 3)))), (a32, .inl (T 2, 30, .inr (.inr (.inl (sf 3))))), (a33, .inl (T 3, 30, .inr (.inr (.inr (.inl (sd 3))))))] sz)) 0 0 (va_A [(h0, .inr (9, fs0)), (h1, .inl (T 6, 4, .inr (.inr (.inr (.inr (va_up (va_up (va_up (va_up (fun _ => none) 0 (some t0)) 1 (some t1)) 2 (some t2)) 3 (some t3))))))), (t0, .inr (6, [.int (so 0), .int (sn 0), .ref a00, .ref a01, .ref a02, .ref a03])), (t1, .inr (6, [.int (so 1), .int (sn 1), .ref a10, .ref a11, .ref a12, .ref a13])), (t2, .inr (6, [.int (so 2), .int (sn 2), .ref a20, .ref a21, .ref a22, .ref a23])), (t3, .inr (6, [.int (so 3), .int (sn 3), .ref a30, .ref a31, .ref a32, .ref a33])), (a00, .inl (T 0, 30, .inl (si 0))), (a01, .inl (T 1, 30, .inr (.inl (sl 0)))), (a02, .inl (T 2, 30, .inr (.inr (.inl (sf 0))))), (a03, .inl (T 3, 30, .inr (.inr (.inr (.inl (sd 0)))))), (a10, .inl (T 0, 30, .inl (si 1))), (a11, .inl (T 1, 30, .inr (.inl (sl 1)))), (a12, .inl (T 2, 30, .inr (.inr (.inl (sf 1))))), (a13, .inl (T 3, 30, .inr (.inr (.inr (.inl (sd 1)))))), (a20, .inl (T 0, 30, .inl (si 2))), (a21, .inl (T 1, 30, .inr (.inl (sl 2)))), (a22, .inl (T 2, 30, .inr (.inr (.inl (sf 2))))), (a23, .inl (T 3, 30, .inr (.inr (.inr (.inl (sd 2)))))), (a30, .inl (T 0, 30, .inl (si 3))), (a31, .inl (T 1, 30, .inr (.inl (sl 3)))), (a32, .inl (T 2, 30, .inr (.inr (.inl (sf 3))))), (a33, .inl (T 3, 30, .inr (.inr (.inr (.inl (sd 3))))))] sz) := by
  refine MetD.ofW (cc := cX12_read) (maxL := 6) (ret := (some .long)) (by decide +kernel) rfl ?_
  intro p e s m args below meth c s₁ B hml hv hd0
  obtain ⟨rfl, hsz, hP, hE0, hD0⟩ := hv
  have hx := B.exec
  have hb := B.bytes
  have hr := B.returns
  have hts0 := atoms_spec (ws := wsX12_read) B.pre
  have hown0 : s.vm.findClass RX12 = some m.cls := findClass_of_methodNamed B.named
  have hlocks := B.notSynchronized
  subst hsz
  have hD := hD0.self (sz := s.heap.size)
  generalize hAe : va_A [(h0, .inr (9, fs0)), (h1, .inl (T 6, 4, .inr (.inr (.inr (.inr (va_up (va_up (va_up (va_up (fun _ => none) 0 (some t0)) 1 (some t1)) 2 (some t2)) 3 (some t3))))))), (t0, .inr (6, [.int (so 0), .int (sn 0), .ref a00, .ref a01, .ref a02, .ref a03])), (t1, .inr (6, [.int (so 1), .int (sn 1), .ref a10, .ref a11, .ref a12, .ref a13])), (t2, .inr (6, [.int (so 2), .int (sn 2), .ref a20, .ref a21, .ref a22, .ref a23])), (t3, .inr (6, [.int (so 3), .int (sn 3), .ref a30, .ref a31, .ref a32, .ref a33])), (a00, .inl (T 0, 30, .inl (si 0))), (a01, .inl (T 1, 30, .inr (.inl (sl 0)))), (a02, .inl (T 2, 30, .inr (.inr (.inl (sf 0))))), (a03, .inl (T 3, 30, .inr (.inr (.inr (.inl (sd 0)))))), (a10, .inl (T 0, 30, .inl (si 1))), (a11, .inl (T 1, 30, .inr (.inl (sl 1)))), (a12, .inl (T 2, 30, .inr (.inr (.inl (sf 1))))), (a13, .inl (T 3, 30, .inr (.inr (.inr (.inl (sd 1)))))), (a20, .inl (T 0, 30, .inl (si 2))), (a21, .inl (T 1, 30, .inr (.inl (sl 2)))), (a22, .inl (T 2, 30, .inr (.inr (.inl (sf 2))))), (a23, .inl (T 3, 30, .inr (.inr (.inr (.inl (sd 2)))))), (a30, .inl (T 0, 30, .inl (si 3))), (a31, .inl (T 1, 30, .inr (.inl (sl 3)))), (a32, .inl (T 2, 30, .inr (.inr (.inl (sf 3))))), (a33, .inl (T 3, 30, .inr (.inr (.inr (.inl (sd 3))))))] s.heap.size = A at hD ⊢
  have hA : ∀ q : Nat, s.heap.size ≤ q → A q := fun q h => by rw [← hAe]; exact Or.inr h
  have hS : va_S A s.heap s.heap [] := va_S.rf
  have hP : va_P D vwCl [(h0, .inr (9, fs0)), (h1, .inl (T 6, 4, .inr (.inr (.inr (.inr (va_up (va_up (va_up (va_up (fun _ => none) 0 (some t0)) 1 (some t1)) 2 (some t2)) 3 (some t3))))))), (t0, .inr (6, [.int (so 0), .int (sn 0), .ref a00, .ref a01, .ref a02, .ref a03])), (t1, .inr (6, [.int (so 1), .int (sn 1), .ref a10, .ref a11, .ref a12, .ref a13])), (t2, .inr (6, [.int (so 2), .int (sn 2), .ref a20, .ref a21, .ref a22, .ref a23])), (t3, .inr (6, [.int (so 3), .int (sn 3), .ref a30, .ref a31, .ref a32, .ref a33])), (a00, .inl (T 0, 30, .inl (si 0))), (a01, .inl (T 1, 30, .inr (.inl (sl 0)))), (a02, .inl (T 2, 30, .inr (.inr (.inl (sf 0))))), (a03, .inl (T 3, 30, .inr (.inr (.inr (.inl (sd 0)))))), (a10, .inl (T 0, 30, .inl (si 1))), (a11, .inl (T 1, 30, .inr (.inl (sl 1)))), (a12, .inl (T 2, 30, .inr (.inr (.inl (sf 1))))), (a13, .inl (T 3, 30, .inr (.inr (.inr (.inl (sd 1)))))), (a20, .inl (T 0, 30, .inl (si 2))), (a21, .inl (T 1, 30, .inr (.inl (sl 2)))), (a22, .inl (T 2, 30, .inr (.inr (.inl (sf 2))))), (a23, .inl (T 3, 30, .inr (.inr (.inr (.inl (sd 2)))))), (a30, .inl (T 0, 30, .inl (si 3))), (a31, .inl (T 1, 30, .inr (.inl (sl 3)))), (a32, .inl (T 2, 30, .inr (.inr (.inl (sf 3))))), (a33, .inl (T 3, 30, .inr (.inr (.inr (.inl (sd 3))))))] s.heap := hP
  have hl := lv_entry ([.ref h0, .int x1, .int x2, .int x3]) (n := 6) (Nat.le_of_ble_eq_true rfl)
  rw [lg_entry_eq]
  generalize (lg_sl ([.ref h0, .int x1, .int x2, .int x3]) ++ List.replicate (6 - (lg_sl ([.ref h0, .int x1, .int x2, .int x3])).length) Slot.unset).toArray = ls at hl ⊢
  have hl : lv_has ls 6 [(0, .ref h0), (1, .int x1), (2, .int x2), (3, .int x3)] := hl
  clear hD0
  have hts := dr_words hts0 s.drawn
  have hE : ekK D T (s.setDrawn s.drawn) := ekK.same (u := s) rfl hE0
  have hown : (s.setDrawn s.drawn).vm.findClass RX12 = some m.cls := hown0
  refine lv_iload_n hx hb dX12_read_0 rfl (lv_at hl 3 rfl) ?_
  refine lv_iconst (v := 0) hx hb dX12_read_1 (by decide +kernel) ?_
  refine lv_iconst (v := 3) hx hb dX12_read_2 (by decide +kernel) ?_
  refine vp_callSi (W.runS (As := [.int x3, .int 0, .int 3]) (rest := []) ⟨hx, hb, hml, hown, hts⟩ (c_X12_within l D T x3 0 3 0 3 (by decide +kernel) (by decide +kernel)) (va_cwS 3 hts gX12_read_X12_within rfl rfl rfl hs_X12_within ⟨Nat.le_of_ble_eq_true rfl, Nat.le_of_ble_eq_true rfl⟩) (pR_S hP hE [] rfl) rfl rfl hl.1 rfl (lv_room (Nat.le_of_ble_eq_true rfl)) dX12_read_3 ⟨Nat.le_of_ble_eq_true rfl, Nat.le_of_ble_eq_true rfl⟩) (fun r_1 hr_1 => ?_)
  rcases bool_post hr_1 with ⟨c_2, rfl⟩ | ⟨c_2, rfl⟩
  · refine lv_if_ne (tgt := 13) hx hb dX12_read_6 (by decide +kernel) (fun _ => ?_) (fun c9 => absurd c9 (by decide +kernel))
    refine lv_aload_n hx hb dX12_read_13 rfl (lv_at hl 0 rfl) ?_
    refine lv_iload_n hx hb dX12_read_14 rfl (lv_at hl 1 rfl) ?_
    refine lv_iload_n hx hb dX12_read_15 rfl (lv_at hl 2 rfl) ?_
    refine vp_callSi (W.runV (As := [.int x1, .int x2]) (rest := []) ⟨hx, hb, hml, hown, hts⟩ (c_X12_placeFault l D T h0 fs0 h1 (va_up (va_up (va_up (va_up (fun _ => none) 0 (some t0)) 1 (some t1)) 2 (some t2)) 3 (some t3)) t0 [.int (so 0), .int (sn 0), .ref a00, .ref a01, .ref a02, .ref a03] t1 [.int (so 1), .int (sn 1), .ref a10, .ref a11, .ref a12, .ref a13] t2 [.int (so 2), .int (sn 2), .ref a20, .ref a21, .ref a22, .ref a23] t3 [.int (so 3), .int (sn 3), .ref a30, .ref a31, .ref a32, .ref a33] x1 x2 so sn e0_9 rfl rfl rfl rfl rfl rfl rfl rfl rfl rfl rfl rfl (by omega) (by omega) (by omega) (by omega)) (cwV 2 hts gX12_read_X12_placeFault rfl rfl rfl hv_X12_placeFault ⟨Nat.le_of_ble_eq_true rfl, Nat.le_of_ble_eq_true rfl⟩) (pR_V (q := (RX12, TX12, 11)) (ci := 9) (q0 := 0) hP hE rfl rfl [0, 1, 2, 3, 4, 5] rfl) rfl rfl hl.1 rfl (lv_room (Nat.le_of_ble_eq_true rfl)) dX12_read_16 ⟨Nat.le_of_ble_eq_true rfl, Nat.le_of_ble_eq_true rfl⟩) (fun r_3 hr_3 => ?_)
    refine lv_istore (lv' := [(4, .int r_3), (0, .ref h0), (1, .int x1), (2, .int x2), (3, .int x3)]) hx hb dX12_read_19 hl (by decide +kernel) rfl (fun ls hl => ?_)
    refine lv_iload hx hb dX12_read_21 (lv_at hl 0 rfl) ?_
    refine lv_if_eq (tgt := 34) hx hb dX12_read_23 (by decide +kernel) (fun c_4 => ?_) (fun c_4 => ?_)
    · rw [fa_eq] at c_4
      try rw [ti_0] at c_4
      refine lv_aload_n hx hb dX12_read_34 rfl (lv_at hl 1 rfl) ?_
      refine va_get (D := D) (ci := 9) (v := .ref h1) (C := RX12) (T := TX12) (N := 11) hx hb hts in_X12_read_X12 hown hE.1 hP 0 rfl rfl 9 (by decide +kernel) (hts (.fieldLink RX12 65 "ClauseBook" "sheets" "[LClauseBook$Sheet;") (List.mem_of_getElem? (i := 3) rfl)) (fun _ h9 => h9) e0_9 dX12_read_35 ?_
      refine lv_iload_n hx hb dX12_read_38 rfl (lv_at hl 2 rfl) ?_
      have h9f : (0 ≤ x1.toInt ∧ x1.toInt ≤ 3) ∧ 0 ≤ x2.toInt ∧ x2.toInt < 30 := hr_3.1 (by omega)
      rcases in4 (x := x1) (by omega) with rfl | rfl | rfl | rfl
      · have h9t := ti_0
        refine va_aldq hx hb hE.1 hP 1 6 rfl rfl (by unfold vp_in; decide) dX12_read_39 ?_
        refine W.eq (g2 := F0 m 40 ls [.ref t0]) rfl ?_
        refine lv_astore (lv' := [(5, .ref t0), (4, .int r_3), (0, .ref h0), (1, .int 0), (2, .int x2), (3, .int x3)]) hx hb dX12_read_40 hl (by decide +kernel) rfl (fun ls hl => ?_)
        refine lv_iload_n hx hb dX12_read_42 rfl (lv_at hl 5 rfl) ?_
        by_cases k_5 : x3 = 0
        · subst k_5
          refine lv_tableIn (off := 25) (tgt := 68) hx hb dX12_read_43 (by decide +kernel) (by decide +kernel) (by decide +kernel) (by decide +kernel) ?_
          refine lv_aload hx hb dX12_read_68 (lv_at hl 0 rfl) ?_
          refine lv_iload_n hx hb dX12_read_70 rfl (lv_at hl 4 rfl) ?_
          have hFc := va_free (wc := [(t0, .inr (6, [.int (so 0), .int (sn 0), .ref a00, .ref a01, .ref a02, .ref a03])), (a00, .inl (T 0, 30, .inl (si 0))), (a01, .inl (T 1, 30, .inr (.inl (sl 0)))), (a02, .inl (T 2, 30, .inr (.inr (.inl (sf 0))))), (a03, .inl (T 3, 30, .inr (.inr (.inr (.inl (sd 0))))))]) hD hS hA [2, 6, 7, 8, 9] rfl
          refine va_calllD hd0 (va_runV_D (As := [.int x2]) (rest := []) ⟨hx, hb, hml, hown, hts⟩ (c_X9_asItIs l D T _ t0 (so 0) (sn 0) a00 a01 a02 a03 (si 0) (sl 0) (sf 0) (sd 0) x2 (by rw [vp_in_iff]; omega)) (cwV 1 hts gX12_read_X9_asItIs rfl rfl rfl hv_X9_asItIs ⟨Nat.le_of_ble_eq_true rfl, Nat.le_of_ble_eq_true rfl⟩) (pW_V (q := (RX9, TX9, 6)) (ci := 6) (q0 := 2) hP hE hD rfl rfl [2, 6, 7, 8, 9] (by decide +kernel) rfl rfl) rfl rfl hl.1 rfl (lv_room (Nat.le_of_ble_eq_true rfl)) dX12_read_71 ⟨Nat.le_of_ble_eq_true rfl, Nat.le_of_ble_eq_true rfl⟩) hS (fun q _ h => hFc q h) hFc (fun r_6 u_7 t H1 locs ht hvm hr_6 hB hz1 hk1 hS d_8 hd_8 => ?_)
          have hts := dr_words hts0 d_8
          have hE : ekK D T (s.setDrawn d_8) := ekK.same (u := s) rfl hE0
          have hown : (s.setDrawn d_8).vm.findClass RX12 = some m.cls := hown0
          obtain ⟨hP1, hD1⟩ := hB
          rw [ht] at hP1
          obtain ⟨hP, hD⟩ := va_repl [(h0, .inr (9, fs0)), (h1, .inl (T 6, 4, .inr (.inr (.inr (.inr (va_up (va_up (va_up (va_up (fun _ => none) 0 (some t0)) 1 (some t1)) 2 (some t2)) 3 (some t3))))))), (t0, .inr (6, [.int (so 0), .int (sn 0), .ref a00, .ref a01, .ref a02, .ref a03])), (t1, .inr (6, [.int (so 1), .int (sn 1), .ref a10, .ref a11, .ref a12, .ref a13])), (t2, .inr (6, [.int (so 2), .int (sn 2), .ref a20, .ref a21, .ref a22, .ref a23])), (t3, .inr (6, [.int (so 3), .int (sn 3), .ref a30, .ref a31, .ref a32, .ref a33])), (a00, .inl (T 0, 30, .inl (si 0))), (a01, .inl (T 1, 30, .inr (.inl (sl 0)))), (a02, .inl (T 2, 30, .inr (.inr (.inl (sf 0))))), (a03, .inl (T 3, 30, .inr (.inr (.inr (.inl (sd 0)))))), (a10, .inl (T 0, 30, .inl (si 1))), (a11, .inl (T 1, 30, .inr (.inl (sl 1)))), (a12, .inl (T 2, 30, .inr (.inr (.inl (sf 1))))), (a13, .inl (T 3, 30, .inr (.inr (.inr (.inl (sd 1)))))), (a20, .inl (T 0, 30, .inl (si 2))), (a21, .inl (T 1, 30, .inr (.inl (sl 2)))), (a22, .inl (T 2, 30, .inr (.inr (.inl (sf 2))))), (a23, .inl (T 3, 30, .inr (.inr (.inr (.inl (sd 2)))))), (a30, .inl (T 0, 30, .inl (si 3))), (a31, .inl (T 1, 30, .inr (.inl (sl 3)))), (a32, .inl (T 2, 30, .inr (.inr (.inl (sf 3))))), (a33, .inl (T 3, 30, .inr (.inr (.inr (.inl (sd 3))))))] hP hD [2, 6, 7, 8, 9] [2, 6, 7, 8, 9] rfl (by decide +kernel) rfl rfl rfl hk1 hP1
          clear hP1 hD1 hFc
          generalize H1 = H at hP hS ⊢
          refine W.endD hd_8 ?_
          exact W.lret hx hb hr (fun t ht hW => ⟨⟨_, (), rfl, trivial, by rw [ht]; exact hP.sub [0, 1, 2, 3, 4, 5, 6, 7, 8, 9, 10, 11, 12, 13, 14, 15, 16, 17, 18, 19, 20, 21] rfl, hD.sub [0, 1, 2, 3, 4, 5, 6, 7, 8, 9, 10, 11, 12, 13, 14, 15, 16, 17, 18, 19, 20, 21] (by decide +kernel) rfl⟩, hS.F ht⟩) hS.2.2 dX12_read_74
        by_cases k_9 : x3 = 1
        · subst k_9
          refine lv_tableIn (off := 32) (tgt := 75) hx hb dX12_read_43 (by decide +kernel) (by decide +kernel) (by decide +kernel) (by decide +kernel) ?_
          refine lv_aload hx hb dX12_read_75 (lv_at hl 0 rfl) ?_
          refine lv_iload_n hx hb dX12_read_77 rfl (lv_at hl 4 rfl) ?_
          have hFc := va_free (wc := [(t0, .inr (6, [.int (so 0), .int (sn 0), .ref a00, .ref a01, .ref a02, .ref a03])), (a00, .inl (T 0, 30, .inl (si 0))), (a01, .inl (T 1, 30, .inr (.inl (sl 0)))), (a02, .inl (T 2, 30, .inr (.inr (.inl (sf 0))))), (a03, .inl (T 3, 30, .inr (.inr (.inr (.inl (sd 0))))))]) hD hS hA [2, 6, 7, 8, 9] rfl
          refine va_calli (va_runV (As := [.int x2]) (rest := []) ⟨hx, hb, hml, hown, hts⟩ (c_X9_asInt l D T _ t0 (so 0) (sn 0) a00 a01 a02 a03 (si 0) (sl 0) (sf 0) (sd 0) x2 (by rw [vp_in_iff]; omega)) (cwV 1 hts gX12_read_X9_asInt rfl rfl rfl hv_X9_asInt ⟨Nat.le_of_ble_eq_true rfl, Nat.le_of_ble_eq_true rfl⟩) (pW_V (q := (RX9, TX9, 6)) (ci := 6) (q0 := 2) hP hE hD rfl rfl [2, 6, 7, 8, 9] (by decide +kernel) rfl rfl) rfl rfl hl.1 rfl (lv_room (Nat.le_of_ble_eq_true rfl)) dX12_read_78 ⟨Nat.le_of_ble_eq_true rfl, Nat.le_of_ble_eq_true rfl⟩) hS (fun q _ h => hFc q h) hFc (fun r_10 u_11 t H1 locs ht hvm hr_10 hB hz1 hk1 hS => ?_)
          obtain ⟨hP1, hD1⟩ := hB
          rw [ht] at hP1
          obtain ⟨hP, hD⟩ := va_repl [(h0, .inr (9, fs0)), (h1, .inl (T 6, 4, .inr (.inr (.inr (.inr (va_up (va_up (va_up (va_up (fun _ => none) 0 (some t0)) 1 (some t1)) 2 (some t2)) 3 (some t3))))))), (t0, .inr (6, [.int (so 0), .int (sn 0), .ref a00, .ref a01, .ref a02, .ref a03])), (t1, .inr (6, [.int (so 1), .int (sn 1), .ref a10, .ref a11, .ref a12, .ref a13])), (t2, .inr (6, [.int (so 2), .int (sn 2), .ref a20, .ref a21, .ref a22, .ref a23])), (t3, .inr (6, [.int (so 3), .int (sn 3), .ref a30, .ref a31, .ref a32, .ref a33])), (a00, .inl (T 0, 30, .inl (si 0))), (a01, .inl (T 1, 30, .inr (.inl (sl 0)))), (a02, .inl (T 2, 30, .inr (.inr (.inl (sf 0))))), (a03, .inl (T 3, 30, .inr (.inr (.inr (.inl (sd 0)))))), (a10, .inl (T 0, 30, .inl (si 1))), (a11, .inl (T 1, 30, .inr (.inl (sl 1)))), (a12, .inl (T 2, 30, .inr (.inr (.inl (sf 1))))), (a13, .inl (T 3, 30, .inr (.inr (.inr (.inl (sd 1)))))), (a20, .inl (T 0, 30, .inl (si 2))), (a21, .inl (T 1, 30, .inr (.inl (sl 2)))), (a22, .inl (T 2, 30, .inr (.inr (.inl (sf 2))))), (a23, .inl (T 3, 30, .inr (.inr (.inr (.inl (sd 2)))))), (a30, .inl (T 0, 30, .inl (si 3))), (a31, .inl (T 1, 30, .inr (.inl (sl 3)))), (a32, .inl (T 2, 30, .inr (.inr (.inl (sf 3))))), (a33, .inl (T 3, 30, .inr (.inr (.inr (.inl (sd 3))))))] hP hD [2, 6, 7, 8, 9] [2, 6, 7, 8, 9] rfl (by decide +kernel) rfl rfl rfl hk1 hP1
          clear hP1 hD1 hFc
          generalize H1 = H at hP hS ⊢
          refine lv_i2l hx hb dX12_read_81 rfl ?_
          refine W.endD hd0 ?_
          exact W.lret hx hb hr (fun t ht hW => ⟨⟨_, (), rfl, trivial, by rw [ht]; exact hP.sub [0, 1, 2, 3, 4, 5, 6, 7, 8, 9, 10, 11, 12, 13, 14, 15, 16, 17, 18, 19, 20, 21] rfl, hD.sub [0, 1, 2, 3, 4, 5, 6, 7, 8, 9, 10, 11, 12, 13, 14, 15, 16, 17, 18, 19, 20, 21] (by decide +kernel) rfl⟩, hS.F ht⟩) hS.2.2 dX12_read_82
        by_cases k_12 : x3 = 2
        · subst k_12
          refine lv_tableIn (off := 40) (tgt := 83) hx hb dX12_read_43 (by decide +kernel) (by decide +kernel) (by decide +kernel) (by decide +kernel) ?_
          refine lv_aload hx hb dX12_read_83 (lv_at hl 0 rfl) ?_
          refine lv_iload_n hx hb dX12_read_85 rfl (lv_at hl 4 rfl) ?_
          have hFc := va_free (wc := [(t0, .inr (6, [.int (so 0), .int (sn 0), .ref a00, .ref a01, .ref a02, .ref a03])), (a00, .inl (T 0, 30, .inl (si 0))), (a01, .inl (T 1, 30, .inr (.inl (sl 0)))), (a02, .inl (T 2, 30, .inr (.inr (.inl (sf 0))))), (a03, .inl (T 3, 30, .inr (.inr (.inr (.inl (sd 0))))))]) hD hS hA [2, 6, 7, 8, 9] rfl
          refine va_calll (va_runV (As := [.int x2]) (rest := []) ⟨hx, hb, hml, hown, hts⟩ (c_X9_asLong l D T _ t0 (so 0) (sn 0) a00 a01 a02 a03 (si 0) (sl 0) (sf 0) (sd 0) x2 (by rw [vp_in_iff]; omega)) (cwV 1 hts gX12_read_X9_asLong rfl rfl rfl hv_X9_asLong ⟨Nat.le_of_ble_eq_true rfl, Nat.le_of_ble_eq_true rfl⟩) (pW_V (q := (RX9, TX9, 6)) (ci := 6) (q0 := 2) hP hE hD rfl rfl [2, 6, 7, 8, 9] (by decide +kernel) rfl rfl) rfl rfl hl.1 rfl (lv_room (Nat.le_of_ble_eq_true rfl)) dX12_read_86 ⟨Nat.le_of_ble_eq_true rfl, Nat.le_of_ble_eq_true rfl⟩) hS (fun q _ h => hFc q h) hFc (fun r_13 u_14 t H1 locs ht hvm hr_13 hB hz1 hk1 hS => ?_)
          obtain ⟨hP1, hD1⟩ := hB
          rw [ht] at hP1
          obtain ⟨hP, hD⟩ := va_repl [(h0, .inr (9, fs0)), (h1, .inl (T 6, 4, .inr (.inr (.inr (.inr (va_up (va_up (va_up (va_up (fun _ => none) 0 (some t0)) 1 (some t1)) 2 (some t2)) 3 (some t3))))))), (t0, .inr (6, [.int (so 0), .int (sn 0), .ref a00, .ref a01, .ref a02, .ref a03])), (t1, .inr (6, [.int (so 1), .int (sn 1), .ref a10, .ref a11, .ref a12, .ref a13])), (t2, .inr (6, [.int (so 2), .int (sn 2), .ref a20, .ref a21, .ref a22, .ref a23])), (t3, .inr (6, [.int (so 3), .int (sn 3), .ref a30, .ref a31, .ref a32, .ref a33])), (a00, .inl (T 0, 30, .inl (si 0))), (a01, .inl (T 1, 30, .inr (.inl (sl 0)))), (a02, .inl (T 2, 30, .inr (.inr (.inl (sf 0))))), (a03, .inl (T 3, 30, .inr (.inr (.inr (.inl (sd 0)))))), (a10, .inl (T 0, 30, .inl (si 1))), (a11, .inl (T 1, 30, .inr (.inl (sl 1)))), (a12, .inl (T 2, 30, .inr (.inr (.inl (sf 1))))), (a13, .inl (T 3, 30, .inr (.inr (.inr (.inl (sd 1)))))), (a20, .inl (T 0, 30, .inl (si 2))), (a21, .inl (T 1, 30, .inr (.inl (sl 2)))), (a22, .inl (T 2, 30, .inr (.inr (.inl (sf 2))))), (a23, .inl (T 3, 30, .inr (.inr (.inr (.inl (sd 2)))))), (a30, .inl (T 0, 30, .inl (si 3))), (a31, .inl (T 1, 30, .inr (.inl (sl 3)))), (a32, .inl (T 2, 30, .inr (.inr (.inl (sf 3))))), (a33, .inl (T 3, 30, .inr (.inr (.inr (.inl (sd 3))))))] hP hD [2, 6, 7, 8, 9] [2, 6, 7, 8, 9] rfl (by decide +kernel) rfl rfl rfl hk1 hP1
          clear hP1 hD1 hFc
          generalize H1 = H at hP hS ⊢
          refine W.endD hd0 ?_
          exact W.lret hx hb hr (fun t ht hW => ⟨⟨_, (), rfl, trivial, by rw [ht]; exact hP.sub [0, 1, 2, 3, 4, 5, 6, 7, 8, 9, 10, 11, 12, 13, 14, 15, 16, 17, 18, 19, 20, 21] rfl, hD.sub [0, 1, 2, 3, 4, 5, 6, 7, 8, 9, 10, 11, 12, 13, 14, 15, 16, 17, 18, 19, 20, 21] (by decide +kernel) rfl⟩, hS.F ht⟩) hS.2.2 dX12_read_89
        rw [fa_eq] at k_5 k_9 k_12
        try simp only [ti_0, ti_1, ti_2] at k_5 k_9 k_12
        refine lv_tableOut (tgt := 90) hx hb dX12_read_43 (by omega) (by decide +kernel) ?_
        refine lv_aload hx hb dX12_read_90 (lv_at hl 0 rfl) ?_
        refine lv_iload_n hx hb dX12_read_92 rfl (lv_at hl 4 rfl) ?_
        have hFc := va_free (wc := [(t0, .inr (6, [.int (so 0), .int (sn 0), .ref a00, .ref a01, .ref a02, .ref a03])), (a00, .inl (T 0, 30, .inl (si 0))), (a01, .inl (T 1, 30, .inr (.inl (sl 0)))), (a02, .inl (T 2, 30, .inr (.inr (.inl (sf 0))))), (a03, .inl (T 3, 30, .inr (.inr (.inr (.inl (sd 0))))))]) hD hS hA [2, 6, 7, 8, 9] rfl
        refine va_calldD hd0 (va_runV_D (As := [.int x2]) (rest := []) ⟨hx, hb, hml, hown, hts⟩ (c_X9_asDouble l D T _ t0 (so 0) (sn 0) a00 a01 a02 a03 (si 0) (sl 0) (sf 0) (sd 0) x2 (by rw [vp_in_iff]; omega)) (cwV 1 hts gX12_read_X9_asDouble rfl rfl rfl hv_X9_asDouble ⟨Nat.le_of_ble_eq_true rfl, Nat.le_of_ble_eq_true rfl⟩) (pW_V (q := (RX9, TX9, 6)) (ci := 6) (q0 := 2) hP hE hD rfl rfl [2, 6, 7, 8, 9] (by decide +kernel) rfl rfl) rfl rfl hl.1 rfl (lv_room (Nat.le_of_ble_eq_true rfl)) dX12_read_93 ⟨Nat.le_of_ble_eq_true rfl, Nat.le_of_ble_eq_true rfl⟩) hS (fun q _ h => hFc q h) hFc (fun r_15 u_16 t H1 locs ht hvm hr_15 hB hz1 hk1 hS d_17 hd_17 => ?_)
        have hts := dr_words hts0 d_17
        have hE : ekK D T (s.setDrawn d_17) := ekK.same (u := s) rfl hE0
        have hown : (s.setDrawn d_17).vm.findClass RX12 = some m.cls := hown0
        obtain ⟨hP1, hD1⟩ := hB
        rw [ht] at hP1
        obtain ⟨hP, hD⟩ := va_repl [(h0, .inr (9, fs0)), (h1, .inl (T 6, 4, .inr (.inr (.inr (.inr (va_up (va_up (va_up (va_up (fun _ => none) 0 (some t0)) 1 (some t1)) 2 (some t2)) 3 (some t3))))))), (t0, .inr (6, [.int (so 0), .int (sn 0), .ref a00, .ref a01, .ref a02, .ref a03])), (t1, .inr (6, [.int (so 1), .int (sn 1), .ref a10, .ref a11, .ref a12, .ref a13])), (t2, .inr (6, [.int (so 2), .int (sn 2), .ref a20, .ref a21, .ref a22, .ref a23])), (t3, .inr (6, [.int (so 3), .int (sn 3), .ref a30, .ref a31, .ref a32, .ref a33])), (a00, .inl (T 0, 30, .inl (si 0))), (a01, .inl (T 1, 30, .inr (.inl (sl 0)))), (a02, .inl (T 2, 30, .inr (.inr (.inl (sf 0))))), (a03, .inl (T 3, 30, .inr (.inr (.inr (.inl (sd 0)))))), (a10, .inl (T 0, 30, .inl (si 1))), (a11, .inl (T 1, 30, .inr (.inl (sl 1)))), (a12, .inl (T 2, 30, .inr (.inr (.inl (sf 1))))), (a13, .inl (T 3, 30, .inr (.inr (.inr (.inl (sd 1)))))), (a20, .inl (T 0, 30, .inl (si 2))), (a21, .inl (T 1, 30, .inr (.inl (sl 2)))), (a22, .inl (T 2, 30, .inr (.inr (.inl (sf 2))))), (a23, .inl (T 3, 30, .inr (.inr (.inr (.inl (sd 2)))))), (a30, .inl (T 0, 30, .inl (si 3))), (a31, .inl (T 1, 30, .inr (.inl (sl 3)))), (a32, .inl (T 2, 30, .inr (.inr (.inl (sf 3))))), (a33, .inl (T 3, 30, .inr (.inr (.inr (.inl (sd 3))))))] hP hD [2, 6, 7, 8, 9] [2, 6, 7, 8, 9] rfl (by decide +kernel) rfl rfl rfl hk1 hP1
        clear hP1 hD1 hFc
        generalize H1 = H at hP hS ⊢
        refine lv_ldc2d (v := 4619567317775286272) hx hb hown (hts (.constantDouble RX12 340 (4619567317775286272)) (List.mem_of_getElem? (i := 4) rfl)) dX12_read_96 ?_
        have hFc := va_free (wc := []) hD hS hA [] rfl
        refine va_calldD hd_17 (va_runS_D (As := [.double r_15, .double 4619567317775286272]) (rest := []) ⟨hx, hb, hml, hown, hts⟩ (c_X5_remainder l D T _ r_15 4619567317775286272) (va_cwS 2 hts gX12_read_X5_remainder rfl rfl rfl hs_X5_remainder ⟨Nat.le_of_ble_eq_true rfl, Nat.le_of_ble_eq_true rfl⟩) (pW_S hP hE hD [] (by decide +kernel) rfl rfl) rfl rfl hl.1 rfl (lv_room (Nat.le_of_ble_eq_true rfl)) dX12_read_99 ⟨Nat.le_of_ble_eq_true rfl, Nat.le_of_ble_eq_true rfl⟩) hS (fun q _ h => hFc q h) hFc (fun r_18 u_19 t H1 locs ht hvm hr_18 hB hz1 hk1 hS d_20 hd_20 => ?_)
        have hts := dr_words hts0 d_20
        have hE : ekK D T (s.setDrawn d_20) := ekK.same (u := s) rfl hE0
        have hown : (s.setDrawn d_20).vm.findClass RX12 = some m.cls := hown0
        obtain ⟨hP1, hD1⟩ := hB
        rw [ht] at hP1
        obtain ⟨hP, hD⟩ := va_repl [(h0, .inr (9, fs0)), (h1, .inl (T 6, 4, .inr (.inr (.inr (.inr (va_up (va_up (va_up (va_up (fun _ => none) 0 (some t0)) 1 (some t1)) 2 (some t2)) 3 (some t3))))))), (t0, .inr (6, [.int (so 0), .int (sn 0), .ref a00, .ref a01, .ref a02, .ref a03])), (t1, .inr (6, [.int (so 1), .int (sn 1), .ref a10, .ref a11, .ref a12, .ref a13])), (t2, .inr (6, [.int (so 2), .int (sn 2), .ref a20, .ref a21, .ref a22, .ref a23])), (t3, .inr (6, [.int (so 3), .int (sn 3), .ref a30, .ref a31, .ref a32, .ref a33])), (a00, .inl (T 0, 30, .inl (si 0))), (a01, .inl (T 1, 30, .inr (.inl (sl 0)))), (a02, .inl (T 2, 30, .inr (.inr (.inl (sf 0))))), (a03, .inl (T 3, 30, .inr (.inr (.inr (.inl (sd 0)))))), (a10, .inl (T 0, 30, .inl (si 1))), (a11, .inl (T 1, 30, .inr (.inl (sl 1)))), (a12, .inl (T 2, 30, .inr (.inr (.inl (sf 1))))), (a13, .inl (T 3, 30, .inr (.inr (.inr (.inl (sd 1)))))), (a20, .inl (T 0, 30, .inl (si 2))), (a21, .inl (T 1, 30, .inr (.inl (sl 2)))), (a22, .inl (T 2, 30, .inr (.inr (.inl (sf 2))))), (a23, .inl (T 3, 30, .inr (.inr (.inr (.inl (sd 2)))))), (a30, .inl (T 0, 30, .inl (si 3))), (a31, .inl (T 1, 30, .inr (.inl (sl 3)))), (a32, .inl (T 2, 30, .inr (.inr (.inl (sf 3))))), (a33, .inl (T 3, 30, .inr (.inr (.inr (.inl (sd 3))))))] hP hD [] [] rfl (by decide +kernel) rfl rfl rfl hk1 hP1
        clear hP1 hD1 hFc
        generalize H1 = H at hP hS ⊢
        have hFc := va_free (wc := []) hD hS hA [] rfl
        refine va_calllD hd_20 (va_runS_D (As := [.double r_18]) (rest := []) ⟨hx, hb, hml, hown, hts⟩ (c_X5_doubleBits l D T _ r_18) (va_cwS 1 hts gX12_read_X5_doubleBits rfl rfl rfl hs_X5_doubleBits ⟨Nat.le_of_ble_eq_true rfl, Nat.le_of_ble_eq_true rfl⟩) (pW_S hP hE hD [] (by decide +kernel) rfl rfl) rfl rfl hl.1 rfl (lv_room (Nat.le_of_ble_eq_true rfl)) dX12_read_102 ⟨Nat.le_of_ble_eq_true rfl, Nat.le_of_ble_eq_true rfl⟩) hS (fun q _ h => hFc q h) hFc (fun r_21 u_22 t H1 locs ht hvm hr_21 hB hz1 hk1 hS d_23 hd_23 => ?_)
        have hts := dr_words hts0 d_23
        have hE : ekK D T (s.setDrawn d_23) := ekK.same (u := s) rfl hE0
        have hown : (s.setDrawn d_23).vm.findClass RX12 = some m.cls := hown0
        obtain ⟨hP1, hD1⟩ := hB
        rw [ht] at hP1
        obtain ⟨hP, hD⟩ := va_repl [(h0, .inr (9, fs0)), (h1, .inl (T 6, 4, .inr (.inr (.inr (.inr (va_up (va_up (va_up (va_up (fun _ => none) 0 (some t0)) 1 (some t1)) 2 (some t2)) 3 (some t3))))))), (t0, .inr (6, [.int (so 0), .int (sn 0), .ref a00, .ref a01, .ref a02, .ref a03])), (t1, .inr (6, [.int (so 1), .int (sn 1), .ref a10, .ref a11, .ref a12, .ref a13])), (t2, .inr (6, [.int (so 2), .int (sn 2), .ref a20, .ref a21, .ref a22, .ref a23])), (t3, .inr (6, [.int (so 3), .int (sn 3), .ref a30, .ref a31, .ref a32, .ref a33])), (a00, .inl (T 0, 30, .inl (si 0))), (a01, .inl (T 1, 30, .inr (.inl (sl 0)))), (a02, .inl (T 2, 30, .inr (.inr (.inl (sf 0))))), (a03, .inl (T 3, 30, .inr (.inr (.inr (.inl (sd 0)))))), (a10, .inl (T 0, 30, .inl (si 1))), (a11, .inl (T 1, 30, .inr (.inl (sl 1)))), (a12, .inl (T 2, 30, .inr (.inr (.inl (sf 1))))), (a13, .inl (T 3, 30, .inr (.inr (.inr (.inl (sd 1)))))), (a20, .inl (T 0, 30, .inl (si 2))), (a21, .inl (T 1, 30, .inr (.inl (sl 2)))), (a22, .inl (T 2, 30, .inr (.inr (.inl (sf 2))))), (a23, .inl (T 3, 30, .inr (.inr (.inr (.inl (sd 2)))))), (a30, .inl (T 0, 30, .inl (si 3))), (a31, .inl (T 1, 30, .inr (.inl (sl 3)))), (a32, .inl (T 2, 30, .inr (.inr (.inl (sf 3))))), (a33, .inl (T 3, 30, .inr (.inr (.inr (.inl (sd 3))))))] hP hD [] [] rfl (by decide +kernel) rfl rfl rfl hk1 hP1
        clear hP1 hD1 hFc
        generalize H1 = H at hP hS ⊢
        refine W.endD hd_23 ?_
        exact W.lret hx hb hr (fun t ht hW => ⟨⟨_, (), rfl, trivial, by rw [ht]; exact hP.sub [0, 1, 2, 3, 4, 5, 6, 7, 8, 9, 10, 11, 12, 13, 14, 15, 16, 17, 18, 19, 20, 21] rfl, hD.sub [0, 1, 2, 3, 4, 5, 6, 7, 8, 9, 10, 11, 12, 13, 14, 15, 16, 17, 18, 19, 20, 21] (by decide +kernel) rfl⟩, hS.F ht⟩) hS.2.2 dX12_read_105
      · have h9t := ti_1
        refine va_aldq hx hb hE.1 hP 1 6 rfl rfl (by unfold vp_in; decide) dX12_read_39 ?_
        refine W.eq (g2 := F0 m 40 ls [.ref t1]) rfl ?_
        refine lv_astore (lv' := [(5, .ref t1), (4, .int r_3), (0, .ref h0), (1, .int 1), (2, .int x2), (3, .int x3)]) hx hb dX12_read_40 hl (by decide +kernel) rfl (fun ls hl => ?_)
        refine lv_iload_n hx hb dX12_read_42 rfl (lv_at hl 5 rfl) ?_
        by_cases k_24 : x3 = 0
        · subst k_24
          refine lv_tableIn (off := 25) (tgt := 68) hx hb dX12_read_43 (by decide +kernel) (by decide +kernel) (by decide +kernel) (by decide +kernel) ?_
          refine lv_aload hx hb dX12_read_68 (lv_at hl 0 rfl) ?_
          refine lv_iload_n hx hb dX12_read_70 rfl (lv_at hl 4 rfl) ?_
          have hFc := va_free (wc := [(t1, .inr (6, [.int (so 1), .int (sn 1), .ref a10, .ref a11, .ref a12, .ref a13])), (a10, .inl (T 0, 30, .inl (si 1))), (a11, .inl (T 1, 30, .inr (.inl (sl 1)))), (a12, .inl (T 2, 30, .inr (.inr (.inl (sf 1))))), (a13, .inl (T 3, 30, .inr (.inr (.inr (.inl (sd 1))))))]) hD hS hA [3, 10, 11, 12, 13] rfl
          refine va_calllD hd0 (va_runV_D (As := [.int x2]) (rest := []) ⟨hx, hb, hml, hown, hts⟩ (c_X9_asItIs l D T _ t1 (so 1) (sn 1) a10 a11 a12 a13 (si 1) (sl 1) (sf 1) (sd 1) x2 (by rw [vp_in_iff]; omega)) (cwV 1 hts gX12_read_X9_asItIs rfl rfl rfl hv_X9_asItIs ⟨Nat.le_of_ble_eq_true rfl, Nat.le_of_ble_eq_true rfl⟩) (pW_V (q := (RX9, TX9, 6)) (ci := 6) (q0 := 3) hP hE hD rfl rfl [3, 10, 11, 12, 13] (by decide +kernel) rfl rfl) rfl rfl hl.1 rfl (lv_room (Nat.le_of_ble_eq_true rfl)) dX12_read_71 ⟨Nat.le_of_ble_eq_true rfl, Nat.le_of_ble_eq_true rfl⟩) hS (fun q _ h => hFc q h) hFc (fun r_25 u_26 t H1 locs ht hvm hr_25 hB hz1 hk1 hS d_27 hd_27 => ?_)
          have hts := dr_words hts0 d_27
          have hE : ekK D T (s.setDrawn d_27) := ekK.same (u := s) rfl hE0
          have hown : (s.setDrawn d_27).vm.findClass RX12 = some m.cls := hown0
          obtain ⟨hP1, hD1⟩ := hB
          rw [ht] at hP1
          obtain ⟨hP, hD⟩ := va_repl [(h0, .inr (9, fs0)), (h1, .inl (T 6, 4, .inr (.inr (.inr (.inr (va_up (va_up (va_up (va_up (fun _ => none) 0 (some t0)) 1 (some t1)) 2 (some t2)) 3 (some t3))))))), (t0, .inr (6, [.int (so 0), .int (sn 0), .ref a00, .ref a01, .ref a02, .ref a03])), (t1, .inr (6, [.int (so 1), .int (sn 1), .ref a10, .ref a11, .ref a12, .ref a13])), (t2, .inr (6, [.int (so 2), .int (sn 2), .ref a20, .ref a21, .ref a22, .ref a23])), (t3, .inr (6, [.int (so 3), .int (sn 3), .ref a30, .ref a31, .ref a32, .ref a33])), (a00, .inl (T 0, 30, .inl (si 0))), (a01, .inl (T 1, 30, .inr (.inl (sl 0)))), (a02, .inl (T 2, 30, .inr (.inr (.inl (sf 0))))), (a03, .inl (T 3, 30, .inr (.inr (.inr (.inl (sd 0)))))), (a10, .inl (T 0, 30, .inl (si 1))), (a11, .inl (T 1, 30, .inr (.inl (sl 1)))), (a12, .inl (T 2, 30, .inr (.inr (.inl (sf 1))))), (a13, .inl (T 3, 30, .inr (.inr (.inr (.inl (sd 1)))))), (a20, .inl (T 0, 30, .inl (si 2))), (a21, .inl (T 1, 30, .inr (.inl (sl 2)))), (a22, .inl (T 2, 30, .inr (.inr (.inl (sf 2))))), (a23, .inl (T 3, 30, .inr (.inr (.inr (.inl (sd 2)))))), (a30, .inl (T 0, 30, .inl (si 3))), (a31, .inl (T 1, 30, .inr (.inl (sl 3)))), (a32, .inl (T 2, 30, .inr (.inr (.inl (sf 3))))), (a33, .inl (T 3, 30, .inr (.inr (.inr (.inl (sd 3))))))] hP hD [3, 10, 11, 12, 13] [3, 10, 11, 12, 13] rfl (by decide +kernel) rfl rfl rfl hk1 hP1
          clear hP1 hD1 hFc
          generalize H1 = H at hP hS ⊢
          refine W.endD hd_27 ?_
          exact W.lret hx hb hr (fun t ht hW => ⟨⟨_, (), rfl, trivial, by rw [ht]; exact hP.sub [0, 1, 2, 3, 4, 5, 6, 7, 8, 9, 10, 11, 12, 13, 14, 15, 16, 17, 18, 19, 20, 21] rfl, hD.sub [0, 1, 2, 3, 4, 5, 6, 7, 8, 9, 10, 11, 12, 13, 14, 15, 16, 17, 18, 19, 20, 21] (by decide +kernel) rfl⟩, hS.F ht⟩) hS.2.2 dX12_read_74
        by_cases k_28 : x3 = 1
        · subst k_28
          refine lv_tableIn (off := 32) (tgt := 75) hx hb dX12_read_43 (by decide +kernel) (by decide +kernel) (by decide +kernel) (by decide +kernel) ?_
          refine lv_aload hx hb dX12_read_75 (lv_at hl 0 rfl) ?_
          refine lv_iload_n hx hb dX12_read_77 rfl (lv_at hl 4 rfl) ?_
          have hFc := va_free (wc := [(t1, .inr (6, [.int (so 1), .int (sn 1), .ref a10, .ref a11, .ref a12, .ref a13])), (a10, .inl (T 0, 30, .inl (si 1))), (a11, .inl (T 1, 30, .inr (.inl (sl 1)))), (a12, .inl (T 2, 30, .inr (.inr (.inl (sf 1))))), (a13, .inl (T 3, 30, .inr (.inr (.inr (.inl (sd 1))))))]) hD hS hA [3, 10, 11, 12, 13] rfl
          refine va_calli (va_runV (As := [.int x2]) (rest := []) ⟨hx, hb, hml, hown, hts⟩ (c_X9_asInt l D T _ t1 (so 1) (sn 1) a10 a11 a12 a13 (si 1) (sl 1) (sf 1) (sd 1) x2 (by rw [vp_in_iff]; omega)) (cwV 1 hts gX12_read_X9_asInt rfl rfl rfl hv_X9_asInt ⟨Nat.le_of_ble_eq_true rfl, Nat.le_of_ble_eq_true rfl⟩) (pW_V (q := (RX9, TX9, 6)) (ci := 6) (q0 := 3) hP hE hD rfl rfl [3, 10, 11, 12, 13] (by decide +kernel) rfl rfl) rfl rfl hl.1 rfl (lv_room (Nat.le_of_ble_eq_true rfl)) dX12_read_78 ⟨Nat.le_of_ble_eq_true rfl, Nat.le_of_ble_eq_true rfl⟩) hS (fun q _ h => hFc q h) hFc (fun r_29 u_30 t H1 locs ht hvm hr_29 hB hz1 hk1 hS => ?_)
          obtain ⟨hP1, hD1⟩ := hB
          rw [ht] at hP1
          obtain ⟨hP, hD⟩ := va_repl [(h0, .inr (9, fs0)), (h1, .inl (T 6, 4, .inr (.inr (.inr (.inr (va_up (va_up (va_up (va_up (fun _ => none) 0 (some t0)) 1 (some t1)) 2 (some t2)) 3 (some t3))))))), (t0, .inr (6, [.int (so 0), .int (sn 0), .ref a00, .ref a01, .ref a02, .ref a03])), (t1, .inr (6, [.int (so 1), .int (sn 1), .ref a10, .ref a11, .ref a12, .ref a13])), (t2, .inr (6, [.int (so 2), .int (sn 2), .ref a20, .ref a21, .ref a22, .ref a23])), (t3, .inr (6, [.int (so 3), .int (sn 3), .ref a30, .ref a31, .ref a32, .ref a33])), (a00, .inl (T 0, 30, .inl (si 0))), (a01, .inl (T 1, 30, .inr (.inl (sl 0)))), (a02, .inl (T 2, 30, .inr (.inr (.inl (sf 0))))), (a03, .inl (T 3, 30, .inr (.inr (.inr (.inl (sd 0)))))), (a10, .inl (T 0, 30, .inl (si 1))), (a11, .inl (T 1, 30, .inr (.inl (sl 1)))), (a12, .inl (T 2, 30, .inr (.inr (.inl (sf 1))))), (a13, .inl (T 3, 30, .inr (.inr (.inr (.inl (sd 1)))))), (a20, .inl (T 0, 30, .inl (si 2))), (a21, .inl (T 1, 30, .inr (.inl (sl 2)))), (a22, .inl (T 2, 30, .inr (.inr (.inl (sf 2))))), (a23, .inl (T 3, 30, .inr (.inr (.inr (.inl (sd 2)))))), (a30, .inl (T 0, 30, .inl (si 3))), (a31, .inl (T 1, 30, .inr (.inl (sl 3)))), (a32, .inl (T 2, 30, .inr (.inr (.inl (sf 3))))), (a33, .inl (T 3, 30, .inr (.inr (.inr (.inl (sd 3))))))] hP hD [3, 10, 11, 12, 13] [3, 10, 11, 12, 13] rfl (by decide +kernel) rfl rfl rfl hk1 hP1
          clear hP1 hD1 hFc
          generalize H1 = H at hP hS ⊢
          refine lv_i2l hx hb dX12_read_81 rfl ?_
          refine W.endD hd0 ?_
          exact W.lret hx hb hr (fun t ht hW => ⟨⟨_, (), rfl, trivial, by rw [ht]; exact hP.sub [0, 1, 2, 3, 4, 5, 6, 7, 8, 9, 10, 11, 12, 13, 14, 15, 16, 17, 18, 19, 20, 21] rfl, hD.sub [0, 1, 2, 3, 4, 5, 6, 7, 8, 9, 10, 11, 12, 13, 14, 15, 16, 17, 18, 19, 20, 21] (by decide +kernel) rfl⟩, hS.F ht⟩) hS.2.2 dX12_read_82
        by_cases k_31 : x3 = 2
        · subst k_31
          refine lv_tableIn (off := 40) (tgt := 83) hx hb dX12_read_43 (by decide +kernel) (by decide +kernel) (by decide +kernel) (by decide +kernel) ?_
          refine lv_aload hx hb dX12_read_83 (lv_at hl 0 rfl) ?_
          refine lv_iload_n hx hb dX12_read_85 rfl (lv_at hl 4 rfl) ?_
          have hFc := va_free (wc := [(t1, .inr (6, [.int (so 1), .int (sn 1), .ref a10, .ref a11, .ref a12, .ref a13])), (a10, .inl (T 0, 30, .inl (si 1))), (a11, .inl (T 1, 30, .inr (.inl (sl 1)))), (a12, .inl (T 2, 30, .inr (.inr (.inl (sf 1))))), (a13, .inl (T 3, 30, .inr (.inr (.inr (.inl (sd 1))))))]) hD hS hA [3, 10, 11, 12, 13] rfl
          refine va_calll (va_runV (As := [.int x2]) (rest := []) ⟨hx, hb, hml, hown, hts⟩ (c_X9_asLong l D T _ t1 (so 1) (sn 1) a10 a11 a12 a13 (si 1) (sl 1) (sf 1) (sd 1) x2 (by rw [vp_in_iff]; omega)) (cwV 1 hts gX12_read_X9_asLong rfl rfl rfl hv_X9_asLong ⟨Nat.le_of_ble_eq_true rfl, Nat.le_of_ble_eq_true rfl⟩) (pW_V (q := (RX9, TX9, 6)) (ci := 6) (q0 := 3) hP hE hD rfl rfl [3, 10, 11, 12, 13] (by decide +kernel) rfl rfl) rfl rfl hl.1 rfl (lv_room (Nat.le_of_ble_eq_true rfl)) dX12_read_86 ⟨Nat.le_of_ble_eq_true rfl, Nat.le_of_ble_eq_true rfl⟩) hS (fun q _ h => hFc q h) hFc (fun r_32 u_33 t H1 locs ht hvm hr_32 hB hz1 hk1 hS => ?_)
          obtain ⟨hP1, hD1⟩ := hB
          rw [ht] at hP1
          obtain ⟨hP, hD⟩ := va_repl [(h0, .inr (9, fs0)), (h1, .inl (T 6, 4, .inr (.inr (.inr (.inr (va_up (va_up (va_up (va_up (fun _ => none) 0 (some t0)) 1 (some t1)) 2 (some t2)) 3 (some t3))))))), (t0, .inr (6, [.int (so 0), .int (sn 0), .ref a00, .ref a01, .ref a02, .ref a03])), (t1, .inr (6, [.int (so 1), .int (sn 1), .ref a10, .ref a11, .ref a12, .ref a13])), (t2, .inr (6, [.int (so 2), .int (sn 2), .ref a20, .ref a21, .ref a22, .ref a23])), (t3, .inr (6, [.int (so 3), .int (sn 3), .ref a30, .ref a31, .ref a32, .ref a33])), (a00, .inl (T 0, 30, .inl (si 0))), (a01, .inl (T 1, 30, .inr (.inl (sl 0)))), (a02, .inl (T 2, 30, .inr (.inr (.inl (sf 0))))), (a03, .inl (T 3, 30, .inr (.inr (.inr (.inl (sd 0)))))), (a10, .inl (T 0, 30, .inl (si 1))), (a11, .inl (T 1, 30, .inr (.inl (sl 1)))), (a12, .inl (T 2, 30, .inr (.inr (.inl (sf 1))))), (a13, .inl (T 3, 30, .inr (.inr (.inr (.inl (sd 1)))))), (a20, .inl (T 0, 30, .inl (si 2))), (a21, .inl (T 1, 30, .inr (.inl (sl 2)))), (a22, .inl (T 2, 30, .inr (.inr (.inl (sf 2))))), (a23, .inl (T 3, 30, .inr (.inr (.inr (.inl (sd 2)))))), (a30, .inl (T 0, 30, .inl (si 3))), (a31, .inl (T 1, 30, .inr (.inl (sl 3)))), (a32, .inl (T 2, 30, .inr (.inr (.inl (sf 3))))), (a33, .inl (T 3, 30, .inr (.inr (.inr (.inl (sd 3))))))] hP hD [3, 10, 11, 12, 13] [3, 10, 11, 12, 13] rfl (by decide +kernel) rfl rfl rfl hk1 hP1
          clear hP1 hD1 hFc
          generalize H1 = H at hP hS ⊢
          refine W.endD hd0 ?_
          exact W.lret hx hb hr (fun t ht hW => ⟨⟨_, (), rfl, trivial, by rw [ht]; exact hP.sub [0, 1, 2, 3, 4, 5, 6, 7, 8, 9, 10, 11, 12, 13, 14, 15, 16, 17, 18, 19, 20, 21] rfl, hD.sub [0, 1, 2, 3, 4, 5, 6, 7, 8, 9, 10, 11, 12, 13, 14, 15, 16, 17, 18, 19, 20, 21] (by decide +kernel) rfl⟩, hS.F ht⟩) hS.2.2 dX12_read_89
        rw [fa_eq] at k_24 k_28 k_31
        try simp only [ti_0, ti_1, ti_2] at k_24 k_28 k_31
        refine lv_tableOut (tgt := 90) hx hb dX12_read_43 (by omega) (by decide +kernel) ?_
        refine lv_aload hx hb dX12_read_90 (lv_at hl 0 rfl) ?_
        refine lv_iload_n hx hb dX12_read_92 rfl (lv_at hl 4 rfl) ?_
        have hFc := va_free (wc := [(t1, .inr (6, [.int (so 1), .int (sn 1), .ref a10, .ref a11, .ref a12, .ref a13])), (a10, .inl (T 0, 30, .inl (si 1))), (a11, .inl (T 1, 30, .inr (.inl (sl 1)))), (a12, .inl (T 2, 30, .inr (.inr (.inl (sf 1))))), (a13, .inl (T 3, 30, .inr (.inr (.inr (.inl (sd 1))))))]) hD hS hA [3, 10, 11, 12, 13] rfl
        refine va_calldD hd0 (va_runV_D (As := [.int x2]) (rest := []) ⟨hx, hb, hml, hown, hts⟩ (c_X9_asDouble l D T _ t1 (so 1) (sn 1) a10 a11 a12 a13 (si 1) (sl 1) (sf 1) (sd 1) x2 (by rw [vp_in_iff]; omega)) (cwV 1 hts gX12_read_X9_asDouble rfl rfl rfl hv_X9_asDouble ⟨Nat.le_of_ble_eq_true rfl, Nat.le_of_ble_eq_true rfl⟩) (pW_V (q := (RX9, TX9, 6)) (ci := 6) (q0 := 3) hP hE hD rfl rfl [3, 10, 11, 12, 13] (by decide +kernel) rfl rfl) rfl rfl hl.1 rfl (lv_room (Nat.le_of_ble_eq_true rfl)) dX12_read_93 ⟨Nat.le_of_ble_eq_true rfl, Nat.le_of_ble_eq_true rfl⟩) hS (fun q _ h => hFc q h) hFc (fun r_34 u_35 t H1 locs ht hvm hr_34 hB hz1 hk1 hS d_36 hd_36 => ?_)
        have hts := dr_words hts0 d_36
        have hE : ekK D T (s.setDrawn d_36) := ekK.same (u := s) rfl hE0
        have hown : (s.setDrawn d_36).vm.findClass RX12 = some m.cls := hown0
        obtain ⟨hP1, hD1⟩ := hB
        rw [ht] at hP1
        obtain ⟨hP, hD⟩ := va_repl [(h0, .inr (9, fs0)), (h1, .inl (T 6, 4, .inr (.inr (.inr (.inr (va_up (va_up (va_up (va_up (fun _ => none) 0 (some t0)) 1 (some t1)) 2 (some t2)) 3 (some t3))))))), (t0, .inr (6, [.int (so 0), .int (sn 0), .ref a00, .ref a01, .ref a02, .ref a03])), (t1, .inr (6, [.int (so 1), .int (sn 1), .ref a10, .ref a11, .ref a12, .ref a13])), (t2, .inr (6, [.int (so 2), .int (sn 2), .ref a20, .ref a21, .ref a22, .ref a23])), (t3, .inr (6, [.int (so 3), .int (sn 3), .ref a30, .ref a31, .ref a32, .ref a33])), (a00, .inl (T 0, 30, .inl (si 0))), (a01, .inl (T 1, 30, .inr (.inl (sl 0)))), (a02, .inl (T 2, 30, .inr (.inr (.inl (sf 0))))), (a03, .inl (T 3, 30, .inr (.inr (.inr (.inl (sd 0)))))), (a10, .inl (T 0, 30, .inl (si 1))), (a11, .inl (T 1, 30, .inr (.inl (sl 1)))), (a12, .inl (T 2, 30, .inr (.inr (.inl (sf 1))))), (a13, .inl (T 3, 30, .inr (.inr (.inr (.inl (sd 1)))))), (a20, .inl (T 0, 30, .inl (si 2))), (a21, .inl (T 1, 30, .inr (.inl (sl 2)))), (a22, .inl (T 2, 30, .inr (.inr (.inl (sf 2))))), (a23, .inl (T 3, 30, .inr (.inr (.inr (.inl (sd 2)))))), (a30, .inl (T 0, 30, .inl (si 3))), (a31, .inl (T 1, 30, .inr (.inl (sl 3)))), (a32, .inl (T 2, 30, .inr (.inr (.inl (sf 3))))), (a33, .inl (T 3, 30, .inr (.inr (.inr (.inl (sd 3))))))] hP hD [3, 10, 11, 12, 13] [3, 10, 11, 12, 13] rfl (by decide +kernel) rfl rfl rfl hk1 hP1
        clear hP1 hD1 hFc
        generalize H1 = H at hP hS ⊢
        refine lv_ldc2d (v := 4619567317775286272) hx hb hown (hts (.constantDouble RX12 340 (4619567317775286272)) (List.mem_of_getElem? (i := 4) rfl)) dX12_read_96 ?_
        have hFc := va_free (wc := []) hD hS hA [] rfl
        refine va_calldD hd_36 (va_runS_D (As := [.double r_34, .double 4619567317775286272]) (rest := []) ⟨hx, hb, hml, hown, hts⟩ (c_X5_remainder l D T _ r_34 4619567317775286272) (va_cwS 2 hts gX12_read_X5_remainder rfl rfl rfl hs_X5_remainder ⟨Nat.le_of_ble_eq_true rfl, Nat.le_of_ble_eq_true rfl⟩) (pW_S hP hE hD [] (by decide +kernel) rfl rfl) rfl rfl hl.1 rfl (lv_room (Nat.le_of_ble_eq_true rfl)) dX12_read_99 ⟨Nat.le_of_ble_eq_true rfl, Nat.le_of_ble_eq_true rfl⟩) hS (fun q _ h => hFc q h) hFc (fun r_37 u_38 t H1 locs ht hvm hr_37 hB hz1 hk1 hS d_39 hd_39 => ?_)
        have hts := dr_words hts0 d_39
        have hE : ekK D T (s.setDrawn d_39) := ekK.same (u := s) rfl hE0
        have hown : (s.setDrawn d_39).vm.findClass RX12 = some m.cls := hown0
        obtain ⟨hP1, hD1⟩ := hB
        rw [ht] at hP1
        obtain ⟨hP, hD⟩ := va_repl [(h0, .inr (9, fs0)), (h1, .inl (T 6, 4, .inr (.inr (.inr (.inr (va_up (va_up (va_up (va_up (fun _ => none) 0 (some t0)) 1 (some t1)) 2 (some t2)) 3 (some t3))))))), (t0, .inr (6, [.int (so 0), .int (sn 0), .ref a00, .ref a01, .ref a02, .ref a03])), (t1, .inr (6, [.int (so 1), .int (sn 1), .ref a10, .ref a11, .ref a12, .ref a13])), (t2, .inr (6, [.int (so 2), .int (sn 2), .ref a20, .ref a21, .ref a22, .ref a23])), (t3, .inr (6, [.int (so 3), .int (sn 3), .ref a30, .ref a31, .ref a32, .ref a33])), (a00, .inl (T 0, 30, .inl (si 0))), (a01, .inl (T 1, 30, .inr (.inl (sl 0)))), (a02, .inl (T 2, 30, .inr (.inr (.inl (sf 0))))), (a03, .inl (T 3, 30, .inr (.inr (.inr (.inl (sd 0)))))), (a10, .inl (T 0, 30, .inl (si 1))), (a11, .inl (T 1, 30, .inr (.inl (sl 1)))), (a12, .inl (T 2, 30, .inr (.inr (.inl (sf 1))))), (a13, .inl (T 3, 30, .inr (.inr (.inr (.inl (sd 1)))))), (a20, .inl (T 0, 30, .inl (si 2))), (a21, .inl (T 1, 30, .inr (.inl (sl 2)))), (a22, .inl (T 2, 30, .inr (.inr (.inl (sf 2))))), (a23, .inl (T 3, 30, .inr (.inr (.inr (.inl (sd 2)))))), (a30, .inl (T 0, 30, .inl (si 3))), (a31, .inl (T 1, 30, .inr (.inl (sl 3)))), (a32, .inl (T 2, 30, .inr (.inr (.inl (sf 3))))), (a33, .inl (T 3, 30, .inr (.inr (.inr (.inl (sd 3))))))] hP hD [] [] rfl (by decide +kernel) rfl rfl rfl hk1 hP1
        clear hP1 hD1 hFc
        generalize H1 = H at hP hS ⊢
        have hFc := va_free (wc := []) hD hS hA [] rfl
        refine va_calllD hd_39 (va_runS_D (As := [.double r_37]) (rest := []) ⟨hx, hb, hml, hown, hts⟩ (c_X5_doubleBits l D T _ r_37) (va_cwS 1 hts gX12_read_X5_doubleBits rfl rfl rfl hs_X5_doubleBits ⟨Nat.le_of_ble_eq_true rfl, Nat.le_of_ble_eq_true rfl⟩) (pW_S hP hE hD [] (by decide +kernel) rfl rfl) rfl rfl hl.1 rfl (lv_room (Nat.le_of_ble_eq_true rfl)) dX12_read_102 ⟨Nat.le_of_ble_eq_true rfl, Nat.le_of_ble_eq_true rfl⟩) hS (fun q _ h => hFc q h) hFc (fun r_40 u_41 t H1 locs ht hvm hr_40 hB hz1 hk1 hS d_42 hd_42 => ?_)
        have hts := dr_words hts0 d_42
        have hE : ekK D T (s.setDrawn d_42) := ekK.same (u := s) rfl hE0
        have hown : (s.setDrawn d_42).vm.findClass RX12 = some m.cls := hown0
        obtain ⟨hP1, hD1⟩ := hB
        rw [ht] at hP1
        obtain ⟨hP, hD⟩ := va_repl [(h0, .inr (9, fs0)), (h1, .inl (T 6, 4, .inr (.inr (.inr (.inr (va_up (va_up (va_up (va_up (fun _ => none) 0 (some t0)) 1 (some t1)) 2 (some t2)) 3 (some t3))))))), (t0, .inr (6, [.int (so 0), .int (sn 0), .ref a00, .ref a01, .ref a02, .ref a03])), (t1, .inr (6, [.int (so 1), .int (sn 1), .ref a10, .ref a11, .ref a12, .ref a13])), (t2, .inr (6, [.int (so 2), .int (sn 2), .ref a20, .ref a21, .ref a22, .ref a23])), (t3, .inr (6, [.int (so 3), .int (sn 3), .ref a30, .ref a31, .ref a32, .ref a33])), (a00, .inl (T 0, 30, .inl (si 0))), (a01, .inl (T 1, 30, .inr (.inl (sl 0)))), (a02, .inl (T 2, 30, .inr (.inr (.inl (sf 0))))), (a03, .inl (T 3, 30, .inr (.inr (.inr (.inl (sd 0)))))), (a10, .inl (T 0, 30, .inl (si 1))), (a11, .inl (T 1, 30, .inr (.inl (sl 1)))), (a12, .inl (T 2, 30, .inr (.inr (.inl (sf 1))))), (a13, .inl (T 3, 30, .inr (.inr (.inr (.inl (sd 1)))))), (a20, .inl (T 0, 30, .inl (si 2))), (a21, .inl (T 1, 30, .inr (.inl (sl 2)))), (a22, .inl (T 2, 30, .inr (.inr (.inl (sf 2))))), (a23, .inl (T 3, 30, .inr (.inr (.inr (.inl (sd 2)))))), (a30, .inl (T 0, 30, .inl (si 3))), (a31, .inl (T 1, 30, .inr (.inl (sl 3)))), (a32, .inl (T 2, 30, .inr (.inr (.inl (sf 3))))), (a33, .inl (T 3, 30, .inr (.inr (.inr (.inl (sd 3))))))] hP hD [] [] rfl (by decide +kernel) rfl rfl rfl hk1 hP1
        clear hP1 hD1 hFc
        generalize H1 = H at hP hS ⊢
        refine W.endD hd_42 ?_
        exact W.lret hx hb hr (fun t ht hW => ⟨⟨_, (), rfl, trivial, by rw [ht]; exact hP.sub [0, 1, 2, 3, 4, 5, 6, 7, 8, 9, 10, 11, 12, 13, 14, 15, 16, 17, 18, 19, 20, 21] rfl, hD.sub [0, 1, 2, 3, 4, 5, 6, 7, 8, 9, 10, 11, 12, 13, 14, 15, 16, 17, 18, 19, 20, 21] (by decide +kernel) rfl⟩, hS.F ht⟩) hS.2.2 dX12_read_105
      · have h9t := ti_2
        refine va_aldq hx hb hE.1 hP 1 6 rfl rfl (by unfold vp_in; decide) dX12_read_39 ?_
        refine W.eq (g2 := F0 m 40 ls [.ref t2]) rfl ?_
        refine lv_astore (lv' := [(5, .ref t2), (4, .int r_3), (0, .ref h0), (1, .int 2), (2, .int x2), (3, .int x3)]) hx hb dX12_read_40 hl (by decide +kernel) rfl (fun ls hl => ?_)
        refine lv_iload_n hx hb dX12_read_42 rfl (lv_at hl 5 rfl) ?_
        by_cases k_43 : x3 = 0
        · subst k_43
          refine lv_tableIn (off := 25) (tgt := 68) hx hb dX12_read_43 (by decide +kernel) (by decide +kernel) (by decide +kernel) (by decide +kernel) ?_
          refine lv_aload hx hb dX12_read_68 (lv_at hl 0 rfl) ?_
          refine lv_iload_n hx hb dX12_read_70 rfl (lv_at hl 4 rfl) ?_
          have hFc := va_free (wc := [(t2, .inr (6, [.int (so 2), .int (sn 2), .ref a20, .ref a21, .ref a22, .ref a23])), (a20, .inl (T 0, 30, .inl (si 2))), (a21, .inl (T 1, 30, .inr (.inl (sl 2)))), (a22, .inl (T 2, 30, .inr (.inr (.inl (sf 2))))), (a23, .inl (T 3, 30, .inr (.inr (.inr (.inl (sd 2))))))]) hD hS hA [4, 14, 15, 16, 17] rfl
          refine va_calllD hd0 (va_runV_D (As := [.int x2]) (rest := []) ⟨hx, hb, hml, hown, hts⟩ (c_X9_asItIs l D T _ t2 (so 2) (sn 2) a20 a21 a22 a23 (si 2) (sl 2) (sf 2) (sd 2) x2 (by rw [vp_in_iff]; omega)) (cwV 1 hts gX12_read_X9_asItIs rfl rfl rfl hv_X9_asItIs ⟨Nat.le_of_ble_eq_true rfl, Nat.le_of_ble_eq_true rfl⟩) (pW_V (q := (RX9, TX9, 6)) (ci := 6) (q0 := 4) hP hE hD rfl rfl [4, 14, 15, 16, 17] (by decide +kernel) rfl rfl) rfl rfl hl.1 rfl (lv_room (Nat.le_of_ble_eq_true rfl)) dX12_read_71 ⟨Nat.le_of_ble_eq_true rfl, Nat.le_of_ble_eq_true rfl⟩) hS (fun q _ h => hFc q h) hFc (fun r_44 u_45 t H1 locs ht hvm hr_44 hB hz1 hk1 hS d_46 hd_46 => ?_)
          have hts := dr_words hts0 d_46
          have hE : ekK D T (s.setDrawn d_46) := ekK.same (u := s) rfl hE0
          have hown : (s.setDrawn d_46).vm.findClass RX12 = some m.cls := hown0
          obtain ⟨hP1, hD1⟩ := hB
          rw [ht] at hP1
          obtain ⟨hP, hD⟩ := va_repl [(h0, .inr (9, fs0)), (h1, .inl (T 6, 4, .inr (.inr (.inr (.inr (va_up (va_up (va_up (va_up (fun _ => none) 0 (some t0)) 1 (some t1)) 2 (some t2)) 3 (some t3))))))), (t0, .inr (6, [.int (so 0), .int (sn 0), .ref a00, .ref a01, .ref a02, .ref a03])), (t1, .inr (6, [.int (so 1), .int (sn 1), .ref a10, .ref a11, .ref a12, .ref a13])), (t2, .inr (6, [.int (so 2), .int (sn 2), .ref a20, .ref a21, .ref a22, .ref a23])), (t3, .inr (6, [.int (so 3), .int (sn 3), .ref a30, .ref a31, .ref a32, .ref a33])), (a00, .inl (T 0, 30, .inl (si 0))), (a01, .inl (T 1, 30, .inr (.inl (sl 0)))), (a02, .inl (T 2, 30, .inr (.inr (.inl (sf 0))))), (a03, .inl (T 3, 30, .inr (.inr (.inr (.inl (sd 0)))))), (a10, .inl (T 0, 30, .inl (si 1))), (a11, .inl (T 1, 30, .inr (.inl (sl 1)))), (a12, .inl (T 2, 30, .inr (.inr (.inl (sf 1))))), (a13, .inl (T 3, 30, .inr (.inr (.inr (.inl (sd 1)))))), (a20, .inl (T 0, 30, .inl (si 2))), (a21, .inl (T 1, 30, .inr (.inl (sl 2)))), (a22, .inl (T 2, 30, .inr (.inr (.inl (sf 2))))), (a23, .inl (T 3, 30, .inr (.inr (.inr (.inl (sd 2)))))), (a30, .inl (T 0, 30, .inl (si 3))), (a31, .inl (T 1, 30, .inr (.inl (sl 3)))), (a32, .inl (T 2, 30, .inr (.inr (.inl (sf 3))))), (a33, .inl (T 3, 30, .inr (.inr (.inr (.inl (sd 3))))))] hP hD [4, 14, 15, 16, 17] [4, 14, 15, 16, 17] rfl (by decide +kernel) rfl rfl rfl hk1 hP1
          clear hP1 hD1 hFc
          generalize H1 = H at hP hS ⊢
          refine W.endD hd_46 ?_
          exact W.lret hx hb hr (fun t ht hW => ⟨⟨_, (), rfl, trivial, by rw [ht]; exact hP.sub [0, 1, 2, 3, 4, 5, 6, 7, 8, 9, 10, 11, 12, 13, 14, 15, 16, 17, 18, 19, 20, 21] rfl, hD.sub [0, 1, 2, 3, 4, 5, 6, 7, 8, 9, 10, 11, 12, 13, 14, 15, 16, 17, 18, 19, 20, 21] (by decide +kernel) rfl⟩, hS.F ht⟩) hS.2.2 dX12_read_74
        by_cases k_47 : x3 = 1
        · subst k_47
          refine lv_tableIn (off := 32) (tgt := 75) hx hb dX12_read_43 (by decide +kernel) (by decide +kernel) (by decide +kernel) (by decide +kernel) ?_
          refine lv_aload hx hb dX12_read_75 (lv_at hl 0 rfl) ?_
          refine lv_iload_n hx hb dX12_read_77 rfl (lv_at hl 4 rfl) ?_
          have hFc := va_free (wc := [(t2, .inr (6, [.int (so 2), .int (sn 2), .ref a20, .ref a21, .ref a22, .ref a23])), (a20, .inl (T 0, 30, .inl (si 2))), (a21, .inl (T 1, 30, .inr (.inl (sl 2)))), (a22, .inl (T 2, 30, .inr (.inr (.inl (sf 2))))), (a23, .inl (T 3, 30, .inr (.inr (.inr (.inl (sd 2))))))]) hD hS hA [4, 14, 15, 16, 17] rfl
          refine va_calli (va_runV (As := [.int x2]) (rest := []) ⟨hx, hb, hml, hown, hts⟩ (c_X9_asInt l D T _ t2 (so 2) (sn 2) a20 a21 a22 a23 (si 2) (sl 2) (sf 2) (sd 2) x2 (by rw [vp_in_iff]; omega)) (cwV 1 hts gX12_read_X9_asInt rfl rfl rfl hv_X9_asInt ⟨Nat.le_of_ble_eq_true rfl, Nat.le_of_ble_eq_true rfl⟩) (pW_V (q := (RX9, TX9, 6)) (ci := 6) (q0 := 4) hP hE hD rfl rfl [4, 14, 15, 16, 17] (by decide +kernel) rfl rfl) rfl rfl hl.1 rfl (lv_room (Nat.le_of_ble_eq_true rfl)) dX12_read_78 ⟨Nat.le_of_ble_eq_true rfl, Nat.le_of_ble_eq_true rfl⟩) hS (fun q _ h => hFc q h) hFc (fun r_48 u_49 t H1 locs ht hvm hr_48 hB hz1 hk1 hS => ?_)
          obtain ⟨hP1, hD1⟩ := hB
          rw [ht] at hP1
          obtain ⟨hP, hD⟩ := va_repl [(h0, .inr (9, fs0)), (h1, .inl (T 6, 4, .inr (.inr (.inr (.inr (va_up (va_up (va_up (va_up (fun _ => none) 0 (some t0)) 1 (some t1)) 2 (some t2)) 3 (some t3))))))), (t0, .inr (6, [.int (so 0), .int (sn 0), .ref a00, .ref a01, .ref a02, .ref a03])), (t1, .inr (6, [.int (so 1), .int (sn 1), .ref a10, .ref a11, .ref a12, .ref a13])), (t2, .inr (6, [.int (so 2), .int (sn 2), .ref a20, .ref a21, .ref a22, .ref a23])), (t3, .inr (6, [.int (so 3), .int (sn 3), .ref a30, .ref a31, .ref a32, .ref a33])), (a00, .inl (T 0, 30, .inl (si 0))), (a01, .inl (T 1, 30, .inr (.inl (sl 0)))), (a02, .inl (T 2, 30, .inr (.inr (.inl (sf 0))))), (a03, .inl (T 3, 30, .inr (.inr (.inr (.inl (sd 0)))))), (a10, .inl (T 0, 30, .inl (si 1))), (a11, .inl (T 1, 30, .inr (.inl (sl 1)))), (a12, .inl (T 2, 30, .inr (.inr (.inl (sf 1))))), (a13, .inl (T 3, 30, .inr (.inr (.inr (.inl (sd 1)))))), (a20, .inl (T 0, 30, .inl (si 2))), (a21, .inl (T 1, 30, .inr (.inl (sl 2)))), (a22, .inl (T 2, 30, .inr (.inr (.inl (sf 2))))), (a23, .inl (T 3, 30, .inr (.inr (.inr (.inl (sd 2)))))), (a30, .inl (T 0, 30, .inl (si 3))), (a31, .inl (T 1, 30, .inr (.inl (sl 3)))), (a32, .inl (T 2, 30, .inr (.inr (.inl (sf 3))))), (a33, .inl (T 3, 30, .inr (.inr (.inr (.inl (sd 3))))))] hP hD [4, 14, 15, 16, 17] [4, 14, 15, 16, 17] rfl (by decide +kernel) rfl rfl rfl hk1 hP1
          clear hP1 hD1 hFc
          generalize H1 = H at hP hS ⊢
          refine lv_i2l hx hb dX12_read_81 rfl ?_
          refine W.endD hd0 ?_
          exact W.lret hx hb hr (fun t ht hW => ⟨⟨_, (), rfl, trivial, by rw [ht]; exact hP.sub [0, 1, 2, 3, 4, 5, 6, 7, 8, 9, 10, 11, 12, 13, 14, 15, 16, 17, 18, 19, 20, 21] rfl, hD.sub [0, 1, 2, 3, 4, 5, 6, 7, 8, 9, 10, 11, 12, 13, 14, 15, 16, 17, 18, 19, 20, 21] (by decide +kernel) rfl⟩, hS.F ht⟩) hS.2.2 dX12_read_82
        by_cases k_50 : x3 = 2
        · subst k_50
          refine lv_tableIn (off := 40) (tgt := 83) hx hb dX12_read_43 (by decide +kernel) (by decide +kernel) (by decide +kernel) (by decide +kernel) ?_
          refine lv_aload hx hb dX12_read_83 (lv_at hl 0 rfl) ?_
          refine lv_iload_n hx hb dX12_read_85 rfl (lv_at hl 4 rfl) ?_
          have hFc := va_free (wc := [(t2, .inr (6, [.int (so 2), .int (sn 2), .ref a20, .ref a21, .ref a22, .ref a23])), (a20, .inl (T 0, 30, .inl (si 2))), (a21, .inl (T 1, 30, .inr (.inl (sl 2)))), (a22, .inl (T 2, 30, .inr (.inr (.inl (sf 2))))), (a23, .inl (T 3, 30, .inr (.inr (.inr (.inl (sd 2))))))]) hD hS hA [4, 14, 15, 16, 17] rfl
          refine va_calll (va_runV (As := [.int x2]) (rest := []) ⟨hx, hb, hml, hown, hts⟩ (c_X9_asLong l D T _ t2 (so 2) (sn 2) a20 a21 a22 a23 (si 2) (sl 2) (sf 2) (sd 2) x2 (by rw [vp_in_iff]; omega)) (cwV 1 hts gX12_read_X9_asLong rfl rfl rfl hv_X9_asLong ⟨Nat.le_of_ble_eq_true rfl, Nat.le_of_ble_eq_true rfl⟩) (pW_V (q := (RX9, TX9, 6)) (ci := 6) (q0 := 4) hP hE hD rfl rfl [4, 14, 15, 16, 17] (by decide +kernel) rfl rfl) rfl rfl hl.1 rfl (lv_room (Nat.le_of_ble_eq_true rfl)) dX12_read_86 ⟨Nat.le_of_ble_eq_true rfl, Nat.le_of_ble_eq_true rfl⟩) hS (fun q _ h => hFc q h) hFc (fun r_51 u_52 t H1 locs ht hvm hr_51 hB hz1 hk1 hS => ?_)
          obtain ⟨hP1, hD1⟩ := hB
          rw [ht] at hP1
          obtain ⟨hP, hD⟩ := va_repl [(h0, .inr (9, fs0)), (h1, .inl (T 6, 4, .inr (.inr (.inr (.inr (va_up (va_up (va_up (va_up (fun _ => none) 0 (some t0)) 1 (some t1)) 2 (some t2)) 3 (some t3))))))), (t0, .inr (6, [.int (so 0), .int (sn 0), .ref a00, .ref a01, .ref a02, .ref a03])), (t1, .inr (6, [.int (so 1), .int (sn 1), .ref a10, .ref a11, .ref a12, .ref a13])), (t2, .inr (6, [.int (so 2), .int (sn 2), .ref a20, .ref a21, .ref a22, .ref a23])), (t3, .inr (6, [.int (so 3), .int (sn 3), .ref a30, .ref a31, .ref a32, .ref a33])), (a00, .inl (T 0, 30, .inl (si 0))), (a01, .inl (T 1, 30, .inr (.inl (sl 0)))), (a02, .inl (T 2, 30, .inr (.inr (.inl (sf 0))))), (a03, .inl (T 3, 30, .inr (.inr (.inr (.inl (sd 0)))))), (a10, .inl (T 0, 30, .inl (si 1))), (a11, .inl (T 1, 30, .inr (.inl (sl 1)))), (a12, .inl (T 2, 30, .inr (.inr (.inl (sf 1))))), (a13, .inl (T 3, 30, .inr (.inr (.inr (.inl (sd 1)))))), (a20, .inl (T 0, 30, .inl (si 2))), (a21, .inl (T 1, 30, .inr (.inl (sl 2)))), (a22, .inl (T 2, 30, .inr (.inr (.inl (sf 2))))), (a23, .inl (T 3, 30, .inr (.inr (.inr (.inl (sd 2)))))), (a30, .inl (T 0, 30, .inl (si 3))), (a31, .inl (T 1, 30, .inr (.inl (sl 3)))), (a32, .inl (T 2, 30, .inr (.inr (.inl (sf 3))))), (a33, .inl (T 3, 30, .inr (.inr (.inr (.inl (sd 3))))))] hP hD [4, 14, 15, 16, 17] [4, 14, 15, 16, 17] rfl (by decide +kernel) rfl rfl rfl hk1 hP1
          clear hP1 hD1 hFc
          generalize H1 = H at hP hS ⊢
          refine W.endD hd0 ?_
          exact W.lret hx hb hr (fun t ht hW => ⟨⟨_, (), rfl, trivial, by rw [ht]; exact hP.sub [0, 1, 2, 3, 4, 5, 6, 7, 8, 9, 10, 11, 12, 13, 14, 15, 16, 17, 18, 19, 20, 21] rfl, hD.sub [0, 1, 2, 3, 4, 5, 6, 7, 8, 9, 10, 11, 12, 13, 14, 15, 16, 17, 18, 19, 20, 21] (by decide +kernel) rfl⟩, hS.F ht⟩) hS.2.2 dX12_read_89
        rw [fa_eq] at k_43 k_47 k_50
        try simp only [ti_0, ti_1, ti_2] at k_43 k_47 k_50
        refine lv_tableOut (tgt := 90) hx hb dX12_read_43 (by omega) (by decide +kernel) ?_
        refine lv_aload hx hb dX12_read_90 (lv_at hl 0 rfl) ?_
        refine lv_iload_n hx hb dX12_read_92 rfl (lv_at hl 4 rfl) ?_
        have hFc := va_free (wc := [(t2, .inr (6, [.int (so 2), .int (sn 2), .ref a20, .ref a21, .ref a22, .ref a23])), (a20, .inl (T 0, 30, .inl (si 2))), (a21, .inl (T 1, 30, .inr (.inl (sl 2)))), (a22, .inl (T 2, 30, .inr (.inr (.inl (sf 2))))), (a23, .inl (T 3, 30, .inr (.inr (.inr (.inl (sd 2))))))]) hD hS hA [4, 14, 15, 16, 17] rfl
        refine va_calldD hd0 (va_runV_D (As := [.int x2]) (rest := []) ⟨hx, hb, hml, hown, hts⟩ (c_X9_asDouble l D T _ t2 (so 2) (sn 2) a20 a21 a22 a23 (si 2) (sl 2) (sf 2) (sd 2) x2 (by rw [vp_in_iff]; omega)) (cwV 1 hts gX12_read_X9_asDouble rfl rfl rfl hv_X9_asDouble ⟨Nat.le_of_ble_eq_true rfl, Nat.le_of_ble_eq_true rfl⟩) (pW_V (q := (RX9, TX9, 6)) (ci := 6) (q0 := 4) hP hE hD rfl rfl [4, 14, 15, 16, 17] (by decide +kernel) rfl rfl) rfl rfl hl.1 rfl (lv_room (Nat.le_of_ble_eq_true rfl)) dX12_read_93 ⟨Nat.le_of_ble_eq_true rfl, Nat.le_of_ble_eq_true rfl⟩) hS (fun q _ h => hFc q h) hFc (fun r_53 u_54 t H1 locs ht hvm hr_53 hB hz1 hk1 hS d_55 hd_55 => ?_)
        have hts := dr_words hts0 d_55
        have hE : ekK D T (s.setDrawn d_55) := ekK.same (u := s) rfl hE0
        have hown : (s.setDrawn d_55).vm.findClass RX12 = some m.cls := hown0
        obtain ⟨hP1, hD1⟩ := hB
        rw [ht] at hP1
        obtain ⟨hP, hD⟩ := va_repl [(h0, .inr (9, fs0)), (h1, .inl (T 6, 4, .inr (.inr (.inr (.inr (va_up (va_up (va_up (va_up (fun _ => none) 0 (some t0)) 1 (some t1)) 2 (some t2)) 3 (some t3))))))), (t0, .inr (6, [.int (so 0), .int (sn 0), .ref a00, .ref a01, .ref a02, .ref a03])), (t1, .inr (6, [.int (so 1), .int (sn 1), .ref a10, .ref a11, .ref a12, .ref a13])), (t2, .inr (6, [.int (so 2), .int (sn 2), .ref a20, .ref a21, .ref a22, .ref a23])), (t3, .inr (6, [.int (so 3), .int (sn 3), .ref a30, .ref a31, .ref a32, .ref a33])), (a00, .inl (T 0, 30, .inl (si 0))), (a01, .inl (T 1, 30, .inr (.inl (sl 0)))), (a02, .inl (T 2, 30, .inr (.inr (.inl (sf 0))))), (a03, .inl (T 3, 30, .inr (.inr (.inr (.inl (sd 0)))))), (a10, .inl (T 0, 30, .inl (si 1))), (a11, .inl (T 1, 30, .inr (.inl (sl 1)))), (a12, .inl (T 2, 30, .inr (.inr (.inl (sf 1))))), (a13, .inl (T 3, 30, .inr (.inr (.inr (.inl (sd 1)))))), (a20, .inl (T 0, 30, .inl (si 2))), (a21, .inl (T 1, 30, .inr (.inl (sl 2)))), (a22, .inl (T 2, 30, .inr (.inr (.inl (sf 2))))), (a23, .inl (T 3, 30, .inr (.inr (.inr (.inl (sd 2)))))), (a30, .inl (T 0, 30, .inl (si 3))), (a31, .inl (T 1, 30, .inr (.inl (sl 3)))), (a32, .inl (T 2, 30, .inr (.inr (.inl (sf 3))))), (a33, .inl (T 3, 30, .inr (.inr (.inr (.inl (sd 3))))))] hP hD [4, 14, 15, 16, 17] [4, 14, 15, 16, 17] rfl (by decide +kernel) rfl rfl rfl hk1 hP1
        clear hP1 hD1 hFc
        generalize H1 = H at hP hS ⊢
        refine lv_ldc2d (v := 4619567317775286272) hx hb hown (hts (.constantDouble RX12 340 (4619567317775286272)) (List.mem_of_getElem? (i := 4) rfl)) dX12_read_96 ?_
        have hFc := va_free (wc := []) hD hS hA [] rfl
        refine va_calldD hd_55 (va_runS_D (As := [.double r_53, .double 4619567317775286272]) (rest := []) ⟨hx, hb, hml, hown, hts⟩ (c_X5_remainder l D T _ r_53 4619567317775286272) (va_cwS 2 hts gX12_read_X5_remainder rfl rfl rfl hs_X5_remainder ⟨Nat.le_of_ble_eq_true rfl, Nat.le_of_ble_eq_true rfl⟩) (pW_S hP hE hD [] (by decide +kernel) rfl rfl) rfl rfl hl.1 rfl (lv_room (Nat.le_of_ble_eq_true rfl)) dX12_read_99 ⟨Nat.le_of_ble_eq_true rfl, Nat.le_of_ble_eq_true rfl⟩) hS (fun q _ h => hFc q h) hFc (fun r_56 u_57 t H1 locs ht hvm hr_56 hB hz1 hk1 hS d_58 hd_58 => ?_)
        have hts := dr_words hts0 d_58
        have hE : ekK D T (s.setDrawn d_58) := ekK.same (u := s) rfl hE0
        have hown : (s.setDrawn d_58).vm.findClass RX12 = some m.cls := hown0
        obtain ⟨hP1, hD1⟩ := hB
        rw [ht] at hP1
        obtain ⟨hP, hD⟩ := va_repl [(h0, .inr (9, fs0)), (h1, .inl (T 6, 4, .inr (.inr (.inr (.inr (va_up (va_up (va_up (va_up (fun _ => none) 0 (some t0)) 1 (some t1)) 2 (some t2)) 3 (some t3))))))), (t0, .inr (6, [.int (so 0), .int (sn 0), .ref a00, .ref a01, .ref a02, .ref a03])), (t1, .inr (6, [.int (so 1), .int (sn 1), .ref a10, .ref a11, .ref a12, .ref a13])), (t2, .inr (6, [.int (so 2), .int (sn 2), .ref a20, .ref a21, .ref a22, .ref a23])), (t3, .inr (6, [.int (so 3), .int (sn 3), .ref a30, .ref a31, .ref a32, .ref a33])), (a00, .inl (T 0, 30, .inl (si 0))), (a01, .inl (T 1, 30, .inr (.inl (sl 0)))), (a02, .inl (T 2, 30, .inr (.inr (.inl (sf 0))))), (a03, .inl (T 3, 30, .inr (.inr (.inr (.inl (sd 0)))))), (a10, .inl (T 0, 30, .inl (si 1))), (a11, .inl (T 1, 30, .inr (.inl (sl 1)))), (a12, .inl (T 2, 30, .inr (.inr (.inl (sf 1))))), (a13, .inl (T 3, 30, .inr (.inr (.inr (.inl (sd 1)))))), (a20, .inl (T 0, 30, .inl (si 2))), (a21, .inl (T 1, 30, .inr (.inl (sl 2)))), (a22, .inl (T 2, 30, .inr (.inr (.inl (sf 2))))), (a23, .inl (T 3, 30, .inr (.inr (.inr (.inl (sd 2)))))), (a30, .inl (T 0, 30, .inl (si 3))), (a31, .inl (T 1, 30, .inr (.inl (sl 3)))), (a32, .inl (T 2, 30, .inr (.inr (.inl (sf 3))))), (a33, .inl (T 3, 30, .inr (.inr (.inr (.inl (sd 3))))))] hP hD [] [] rfl (by decide +kernel) rfl rfl rfl hk1 hP1
        clear hP1 hD1 hFc
        generalize H1 = H at hP hS ⊢
        have hFc := va_free (wc := []) hD hS hA [] rfl
        refine va_calllD hd_58 (va_runS_D (As := [.double r_56]) (rest := []) ⟨hx, hb, hml, hown, hts⟩ (c_X5_doubleBits l D T _ r_56) (va_cwS 1 hts gX12_read_X5_doubleBits rfl rfl rfl hs_X5_doubleBits ⟨Nat.le_of_ble_eq_true rfl, Nat.le_of_ble_eq_true rfl⟩) (pW_S hP hE hD [] (by decide +kernel) rfl rfl) rfl rfl hl.1 rfl (lv_room (Nat.le_of_ble_eq_true rfl)) dX12_read_102 ⟨Nat.le_of_ble_eq_true rfl, Nat.le_of_ble_eq_true rfl⟩) hS (fun q _ h => hFc q h) hFc (fun r_59 u_60 t H1 locs ht hvm hr_59 hB hz1 hk1 hS d_61 hd_61 => ?_)
        have hts := dr_words hts0 d_61
        have hE : ekK D T (s.setDrawn d_61) := ekK.same (u := s) rfl hE0
        have hown : (s.setDrawn d_61).vm.findClass RX12 = some m.cls := hown0
        obtain ⟨hP1, hD1⟩ := hB
        rw [ht] at hP1
        obtain ⟨hP, hD⟩ := va_repl [(h0, .inr (9, fs0)), (h1, .inl (T 6, 4, .inr (.inr (.inr (.inr (va_up (va_up (va_up (va_up (fun _ => none) 0 (some t0)) 1 (some t1)) 2 (some t2)) 3 (some t3))))))), (t0, .inr (6, [.int (so 0), .int (sn 0), .ref a00, .ref a01, .ref a02, .ref a03])), (t1, .inr (6, [.int (so 1), .int (sn 1), .ref a10, .ref a11, .ref a12, .ref a13])), (t2, .inr (6, [.int (so 2), .int (sn 2), .ref a20, .ref a21, .ref a22, .ref a23])), (t3, .inr (6, [.int (so 3), .int (sn 3), .ref a30, .ref a31, .ref a32, .ref a33])), (a00, .inl (T 0, 30, .inl (si 0))), (a01, .inl (T 1, 30, .inr (.inl (sl 0)))), (a02, .inl (T 2, 30, .inr (.inr (.inl (sf 0))))), (a03, .inl (T 3, 30, .inr (.inr (.inr (.inl (sd 0)))))), (a10, .inl (T 0, 30, .inl (si 1))), (a11, .inl (T 1, 30, .inr (.inl (sl 1)))), (a12, .inl (T 2, 30, .inr (.inr (.inl (sf 1))))), (a13, .inl (T 3, 30, .inr (.inr (.inr (.inl (sd 1)))))), (a20, .inl (T 0, 30, .inl (si 2))), (a21, .inl (T 1, 30, .inr (.inl (sl 2)))), (a22, .inl (T 2, 30, .inr (.inr (.inl (sf 2))))), (a23, .inl (T 3, 30, .inr (.inr (.inr (.inl (sd 2)))))), (a30, .inl (T 0, 30, .inl (si 3))), (a31, .inl (T 1, 30, .inr (.inl (sl 3)))), (a32, .inl (T 2, 30, .inr (.inr (.inl (sf 3))))), (a33, .inl (T 3, 30, .inr (.inr (.inr (.inl (sd 3))))))] hP hD [] [] rfl (by decide +kernel) rfl rfl rfl hk1 hP1
        clear hP1 hD1 hFc
        generalize H1 = H at hP hS ⊢
        refine W.endD hd_61 ?_
        exact W.lret hx hb hr (fun t ht hW => ⟨⟨_, (), rfl, trivial, by rw [ht]; exact hP.sub [0, 1, 2, 3, 4, 5, 6, 7, 8, 9, 10, 11, 12, 13, 14, 15, 16, 17, 18, 19, 20, 21] rfl, hD.sub [0, 1, 2, 3, 4, 5, 6, 7, 8, 9, 10, 11, 12, 13, 14, 15, 16, 17, 18, 19, 20, 21] (by decide +kernel) rfl⟩, hS.F ht⟩) hS.2.2 dX12_read_105
      · have h9t := ti_3
        refine va_aldq hx hb hE.1 hP 1 6 rfl rfl (by unfold vp_in; decide) dX12_read_39 ?_
        refine W.eq (g2 := F0 m 40 ls [.ref t3]) rfl ?_
        refine lv_astore (lv' := [(5, .ref t3), (4, .int r_3), (0, .ref h0), (1, .int 3), (2, .int x2), (3, .int x3)]) hx hb dX12_read_40 hl (by decide +kernel) rfl (fun ls hl => ?_)
        refine lv_iload_n hx hb dX12_read_42 rfl (lv_at hl 5 rfl) ?_
        by_cases k_62 : x3 = 0
        · subst k_62
          refine lv_tableIn (off := 25) (tgt := 68) hx hb dX12_read_43 (by decide +kernel) (by decide +kernel) (by decide +kernel) (by decide +kernel) ?_
          refine lv_aload hx hb dX12_read_68 (lv_at hl 0 rfl) ?_
          refine lv_iload_n hx hb dX12_read_70 rfl (lv_at hl 4 rfl) ?_
          have hFc := va_free (wc := [(t3, .inr (6, [.int (so 3), .int (sn 3), .ref a30, .ref a31, .ref a32, .ref a33])), (a30, .inl (T 0, 30, .inl (si 3))), (a31, .inl (T 1, 30, .inr (.inl (sl 3)))), (a32, .inl (T 2, 30, .inr (.inr (.inl (sf 3))))), (a33, .inl (T 3, 30, .inr (.inr (.inr (.inl (sd 3))))))]) hD hS hA [5, 18, 19, 20, 21] rfl
          refine va_calllD hd0 (va_runV_D (As := [.int x2]) (rest := []) ⟨hx, hb, hml, hown, hts⟩ (c_X9_asItIs l D T _ t3 (so 3) (sn 3) a30 a31 a32 a33 (si 3) (sl 3) (sf 3) (sd 3) x2 (by rw [vp_in_iff]; omega)) (cwV 1 hts gX12_read_X9_asItIs rfl rfl rfl hv_X9_asItIs ⟨Nat.le_of_ble_eq_true rfl, Nat.le_of_ble_eq_true rfl⟩) (pW_V (q := (RX9, TX9, 6)) (ci := 6) (q0 := 5) hP hE hD rfl rfl [5, 18, 19, 20, 21] (by decide +kernel) rfl rfl) rfl rfl hl.1 rfl (lv_room (Nat.le_of_ble_eq_true rfl)) dX12_read_71 ⟨Nat.le_of_ble_eq_true rfl, Nat.le_of_ble_eq_true rfl⟩) hS (fun q _ h => hFc q h) hFc (fun r_63 u_64 t H1 locs ht hvm hr_63 hB hz1 hk1 hS d_65 hd_65 => ?_)
          have hts := dr_words hts0 d_65
          have hE : ekK D T (s.setDrawn d_65) := ekK.same (u := s) rfl hE0
          have hown : (s.setDrawn d_65).vm.findClass RX12 = some m.cls := hown0
          obtain ⟨hP1, hD1⟩ := hB
          rw [ht] at hP1
          obtain ⟨hP, hD⟩ := va_repl [(h0, .inr (9, fs0)), (h1, .inl (T 6, 4, .inr (.inr (.inr (.inr (va_up (va_up (va_up (va_up (fun _ => none) 0 (some t0)) 1 (some t1)) 2 (some t2)) 3 (some t3))))))), (t0, .inr (6, [.int (so 0), .int (sn 0), .ref a00, .ref a01, .ref a02, .ref a03])), (t1, .inr (6, [.int (so 1), .int (sn 1), .ref a10, .ref a11, .ref a12, .ref a13])), (t2, .inr (6, [.int (so 2), .int (sn 2), .ref a20, .ref a21, .ref a22, .ref a23])), (t3, .inr (6, [.int (so 3), .int (sn 3), .ref a30, .ref a31, .ref a32, .ref a33])), (a00, .inl (T 0, 30, .inl (si 0))), (a01, .inl (T 1, 30, .inr (.inl (sl 0)))), (a02, .inl (T 2, 30, .inr (.inr (.inl (sf 0))))), (a03, .inl (T 3, 30, .inr (.inr (.inr (.inl (sd 0)))))), (a10, .inl (T 0, 30, .inl (si 1))), (a11, .inl (T 1, 30, .inr (.inl (sl 1)))), (a12, .inl (T 2, 30, .inr (.inr (.inl (sf 1))))), (a13, .inl (T 3, 30, .inr (.inr (.inr (.inl (sd 1)))))), (a20, .inl (T 0, 30, .inl (si 2))), (a21, .inl (T 1, 30, .inr (.inl (sl 2)))), (a22, .inl (T 2, 30, .inr (.inr (.inl (sf 2))))), (a23, .inl (T 3, 30, .inr (.inr (.inr (.inl (sd 2)))))), (a30, .inl (T 0, 30, .inl (si 3))), (a31, .inl (T 1, 30, .inr (.inl (sl 3)))), (a32, .inl (T 2, 30, .inr (.inr (.inl (sf 3))))), (a33, .inl (T 3, 30, .inr (.inr (.inr (.inl (sd 3))))))] hP hD [5, 18, 19, 20, 21] [5, 18, 19, 20, 21] rfl (by decide +kernel) rfl rfl rfl hk1 hP1
          clear hP1 hD1 hFc
          generalize H1 = H at hP hS ⊢
          refine W.endD hd_65 ?_
          exact W.lret hx hb hr (fun t ht hW => ⟨⟨_, (), rfl, trivial, by rw [ht]; exact hP.sub [0, 1, 2, 3, 4, 5, 6, 7, 8, 9, 10, 11, 12, 13, 14, 15, 16, 17, 18, 19, 20, 21] rfl, hD.sub [0, 1, 2, 3, 4, 5, 6, 7, 8, 9, 10, 11, 12, 13, 14, 15, 16, 17, 18, 19, 20, 21] (by decide +kernel) rfl⟩, hS.F ht⟩) hS.2.2 dX12_read_74
        by_cases k_66 : x3 = 1
        · subst k_66
          refine lv_tableIn (off := 32) (tgt := 75) hx hb dX12_read_43 (by decide +kernel) (by decide +kernel) (by decide +kernel) (by decide +kernel) ?_
          refine lv_aload hx hb dX12_read_75 (lv_at hl 0 rfl) ?_
          refine lv_iload_n hx hb dX12_read_77 rfl (lv_at hl 4 rfl) ?_
          have hFc := va_free (wc := [(t3, .inr (6, [.int (so 3), .int (sn 3), .ref a30, .ref a31, .ref a32, .ref a33])), (a30, .inl (T 0, 30, .inl (si 3))), (a31, .inl (T 1, 30, .inr (.inl (sl 3)))), (a32, .inl (T 2, 30, .inr (.inr (.inl (sf 3))))), (a33, .inl (T 3, 30, .inr (.inr (.inr (.inl (sd 3))))))]) hD hS hA [5, 18, 19, 20, 21] rfl
          refine va_calli (va_runV (As := [.int x2]) (rest := []) ⟨hx, hb, hml, hown, hts⟩ (c_X9_asInt l D T _ t3 (so 3) (sn 3) a30 a31 a32 a33 (si 3) (sl 3) (sf 3) (sd 3) x2 (by rw [vp_in_iff]; omega)) (cwV 1 hts gX12_read_X9_asInt rfl rfl rfl hv_X9_asInt ⟨Nat.le_of_ble_eq_true rfl, Nat.le_of_ble_eq_true rfl⟩) (pW_V (q := (RX9, TX9, 6)) (ci := 6) (q0 := 5) hP hE hD rfl rfl [5, 18, 19, 20, 21] (by decide +kernel) rfl rfl) rfl rfl hl.1 rfl (lv_room (Nat.le_of_ble_eq_true rfl)) dX12_read_78 ⟨Nat.le_of_ble_eq_true rfl, Nat.le_of_ble_eq_true rfl⟩) hS (fun q _ h => hFc q h) hFc (fun r_67 u_68 t H1 locs ht hvm hr_67 hB hz1 hk1 hS => ?_)
          obtain ⟨hP1, hD1⟩ := hB
          rw [ht] at hP1
          obtain ⟨hP, hD⟩ := va_repl [(h0, .inr (9, fs0)), (h1, .inl (T 6, 4, .inr (.inr (.inr (.inr (va_up (va_up (va_up (va_up (fun _ => none) 0 (some t0)) 1 (some t1)) 2 (some t2)) 3 (some t3))))))), (t0, .inr (6, [.int (so 0), .int (sn 0), .ref a00, .ref a01, .ref a02, .ref a03])), (t1, .inr (6, [.int (so 1), .int (sn 1), .ref a10, .ref a11, .ref a12, .ref a13])), (t2, .inr (6, [.int (so 2), .int (sn 2), .ref a20, .ref a21, .ref a22, .ref a23])), (t3, .inr (6, [.int (so 3), .int (sn 3), .ref a30, .ref a31, .ref a32, .ref a33])), (a00, .inl (T 0, 30, .inl (si 0))), (a01, .inl (T 1, 30, .inr (.inl (sl 0)))), (a02, .inl (T 2, 30, .inr (.inr (.inl (sf 0))))), (a03, .inl (T 3, 30, .inr (.inr (.inr (.inl (sd 0)))))), (a10, .inl (T 0, 30, .inl (si 1))), (a11, .inl (T 1, 30, .inr (.inl (sl 1)))), (a12, .inl (T 2, 30, .inr (.inr (.inl (sf 1))))), (a13, .inl (T 3, 30, .inr (.inr (.inr (.inl (sd 1)))))), (a20, .inl (T 0, 30, .inl (si 2))), (a21, .inl (T 1, 30, .inr (.inl (sl 2)))), (a22, .inl (T 2, 30, .inr (.inr (.inl (sf 2))))), (a23, .inl (T 3, 30, .inr (.inr (.inr (.inl (sd 2)))))), (a30, .inl (T 0, 30, .inl (si 3))), (a31, .inl (T 1, 30, .inr (.inl (sl 3)))), (a32, .inl (T 2, 30, .inr (.inr (.inl (sf 3))))), (a33, .inl (T 3, 30, .inr (.inr (.inr (.inl (sd 3))))))] hP hD [5, 18, 19, 20, 21] [5, 18, 19, 20, 21] rfl (by decide +kernel) rfl rfl rfl hk1 hP1
          clear hP1 hD1 hFc
          generalize H1 = H at hP hS ⊢
          refine lv_i2l hx hb dX12_read_81 rfl ?_
          refine W.endD hd0 ?_
          exact W.lret hx hb hr (fun t ht hW => ⟨⟨_, (), rfl, trivial, by rw [ht]; exact hP.sub [0, 1, 2, 3, 4, 5, 6, 7, 8, 9, 10, 11, 12, 13, 14, 15, 16, 17, 18, 19, 20, 21] rfl, hD.sub [0, 1, 2, 3, 4, 5, 6, 7, 8, 9, 10, 11, 12, 13, 14, 15, 16, 17, 18, 19, 20, 21] (by decide +kernel) rfl⟩, hS.F ht⟩) hS.2.2 dX12_read_82
        by_cases k_69 : x3 = 2
        · subst k_69
          refine lv_tableIn (off := 40) (tgt := 83) hx hb dX12_read_43 (by decide +kernel) (by decide +kernel) (by decide +kernel) (by decide +kernel) ?_
          refine lv_aload hx hb dX12_read_83 (lv_at hl 0 rfl) ?_
          refine lv_iload_n hx hb dX12_read_85 rfl (lv_at hl 4 rfl) ?_
          have hFc := va_free (wc := [(t3, .inr (6, [.int (so 3), .int (sn 3), .ref a30, .ref a31, .ref a32, .ref a33])), (a30, .inl (T 0, 30, .inl (si 3))), (a31, .inl (T 1, 30, .inr (.inl (sl 3)))), (a32, .inl (T 2, 30, .inr (.inr (.inl (sf 3))))), (a33, .inl (T 3, 30, .inr (.inr (.inr (.inl (sd 3))))))]) hD hS hA [5, 18, 19, 20, 21] rfl
          refine va_calll (va_runV (As := [.int x2]) (rest := []) ⟨hx, hb, hml, hown, hts⟩ (c_X9_asLong l D T _ t3 (so 3) (sn 3) a30 a31 a32 a33 (si 3) (sl 3) (sf 3) (sd 3) x2 (by rw [vp_in_iff]; omega)) (cwV 1 hts gX12_read_X9_asLong rfl rfl rfl hv_X9_asLong ⟨Nat.le_of_ble_eq_true rfl, Nat.le_of_ble_eq_true rfl⟩) (pW_V (q := (RX9, TX9, 6)) (ci := 6) (q0 := 5) hP hE hD rfl rfl [5, 18, 19, 20, 21] (by decide +kernel) rfl rfl) rfl rfl hl.1 rfl (lv_room (Nat.le_of_ble_eq_true rfl)) dX12_read_86 ⟨Nat.le_of_ble_eq_true rfl, Nat.le_of_ble_eq_true rfl⟩) hS (fun q _ h => hFc q h) hFc (fun r_70 u_71 t H1 locs ht hvm hr_70 hB hz1 hk1 hS => ?_)
          obtain ⟨hP1, hD1⟩ := hB
          rw [ht] at hP1
          obtain ⟨hP, hD⟩ := va_repl [(h0, .inr (9, fs0)), (h1, .inl (T 6, 4, .inr (.inr (.inr (.inr (va_up (va_up (va_up (va_up (fun _ => none) 0 (some t0)) 1 (some t1)) 2 (some t2)) 3 (some t3))))))), (t0, .inr (6, [.int (so 0), .int (sn 0), .ref a00, .ref a01, .ref a02, .ref a03])), (t1, .inr (6, [.int (so 1), .int (sn 1), .ref a10, .ref a11, .ref a12, .ref a13])), (t2, .inr (6, [.int (so 2), .int (sn 2), .ref a20, .ref a21, .ref a22, .ref a23])), (t3, .inr (6, [.int (so 3), .int (sn 3), .ref a30, .ref a31, .ref a32, .ref a33])), (a00, .inl (T 0, 30, .inl (si 0))), (a01, .inl (T 1, 30, .inr (.inl (sl 0)))), (a02, .inl (T 2, 30, .inr (.inr (.inl (sf 0))))), (a03, .inl (T 3, 30, .inr (.inr (.inr (.inl (sd 0)))))), (a10, .inl (T 0, 30, .inl (si 1))), (a11, .inl (T 1, 30, .inr (.inl (sl 1)))), (a12, .inl (T 2, 30, .inr (.inr (.inl (sf 1))))), (a13, .inl (T 3, 30, .inr (.inr (.inr (.inl (sd 1)))))), (a20, .inl (T 0, 30, .inl (si 2))), (a21, .inl (T 1, 30, .inr (.inl (sl 2)))), (a22, .inl (T 2, 30, .inr (.inr (.inl (sf 2))))), (a23, .inl (T 3, 30, .inr (.inr (.inr (.inl (sd 2)))))), (a30, .inl (T 0, 30, .inl (si 3))), (a31, .inl (T 1, 30, .inr (.inl (sl 3)))), (a32, .inl (T 2, 30, .inr (.inr (.inl (sf 3))))), (a33, .inl (T 3, 30, .inr (.inr (.inr (.inl (sd 3))))))] hP hD [5, 18, 19, 20, 21] [5, 18, 19, 20, 21] rfl (by decide +kernel) rfl rfl rfl hk1 hP1
          clear hP1 hD1 hFc
          generalize H1 = H at hP hS ⊢
          refine W.endD hd0 ?_
          exact W.lret hx hb hr (fun t ht hW => ⟨⟨_, (), rfl, trivial, by rw [ht]; exact hP.sub [0, 1, 2, 3, 4, 5, 6, 7, 8, 9, 10, 11, 12, 13, 14, 15, 16, 17, 18, 19, 20, 21] rfl, hD.sub [0, 1, 2, 3, 4, 5, 6, 7, 8, 9, 10, 11, 12, 13, 14, 15, 16, 17, 18, 19, 20, 21] (by decide +kernel) rfl⟩, hS.F ht⟩) hS.2.2 dX12_read_89
        rw [fa_eq] at k_62 k_66 k_69
        try simp only [ti_0, ti_1, ti_2] at k_62 k_66 k_69
        refine lv_tableOut (tgt := 90) hx hb dX12_read_43 (by omega) (by decide +kernel) ?_
        refine lv_aload hx hb dX12_read_90 (lv_at hl 0 rfl) ?_
        refine lv_iload_n hx hb dX12_read_92 rfl (lv_at hl 4 rfl) ?_
        have hFc := va_free (wc := [(t3, .inr (6, [.int (so 3), .int (sn 3), .ref a30, .ref a31, .ref a32, .ref a33])), (a30, .inl (T 0, 30, .inl (si 3))), (a31, .inl (T 1, 30, .inr (.inl (sl 3)))), (a32, .inl (T 2, 30, .inr (.inr (.inl (sf 3))))), (a33, .inl (T 3, 30, .inr (.inr (.inr (.inl (sd 3))))))]) hD hS hA [5, 18, 19, 20, 21] rfl
        refine va_calldD hd0 (va_runV_D (As := [.int x2]) (rest := []) ⟨hx, hb, hml, hown, hts⟩ (c_X9_asDouble l D T _ t3 (so 3) (sn 3) a30 a31 a32 a33 (si 3) (sl 3) (sf 3) (sd 3) x2 (by rw [vp_in_iff]; omega)) (cwV 1 hts gX12_read_X9_asDouble rfl rfl rfl hv_X9_asDouble ⟨Nat.le_of_ble_eq_true rfl, Nat.le_of_ble_eq_true rfl⟩) (pW_V (q := (RX9, TX9, 6)) (ci := 6) (q0 := 5) hP hE hD rfl rfl [5, 18, 19, 20, 21] (by decide +kernel) rfl rfl) rfl rfl hl.1 rfl (lv_room (Nat.le_of_ble_eq_true rfl)) dX12_read_93 ⟨Nat.le_of_ble_eq_true rfl, Nat.le_of_ble_eq_true rfl⟩) hS (fun q _ h => hFc q h) hFc (fun r_72 u_73 t H1 locs ht hvm hr_72 hB hz1 hk1 hS d_74 hd_74 => ?_)
        have hts := dr_words hts0 d_74
        have hE : ekK D T (s.setDrawn d_74) := ekK.same (u := s) rfl hE0
        have hown : (s.setDrawn d_74).vm.findClass RX12 = some m.cls := hown0
        obtain ⟨hP1, hD1⟩ := hB
        rw [ht] at hP1
        obtain ⟨hP, hD⟩ := va_repl [(h0, .inr (9, fs0)), (h1, .inl (T 6, 4, .inr (.inr (.inr (.inr (va_up (va_up (va_up (va_up (fun _ => none) 0 (some t0)) 1 (some t1)) 2 (some t2)) 3 (some t3))))))), (t0, .inr (6, [.int (so 0), .int (sn 0), .ref a00, .ref a01, .ref a02, .ref a03])), (t1, .inr (6, [.int (so 1), .int (sn 1), .ref a10, .ref a11, .ref a12, .ref a13])), (t2, .inr (6, [.int (so 2), .int (sn 2), .ref a20, .ref a21, .ref a22, .ref a23])), (t3, .inr (6, [.int (so 3), .int (sn 3), .ref a30, .ref a31, .ref a32, .ref a33])), (a00, .inl (T 0, 30, .inl (si 0))), (a01, .inl (T 1, 30, .inr (.inl (sl 0)))), (a02, .inl (T 2, 30, .inr (.inr (.inl (sf 0))))), (a03, .inl (T 3, 30, .inr (.inr (.inr (.inl (sd 0)))))), (a10, .inl (T 0, 30, .inl (si 1))), (a11, .inl (T 1, 30, .inr (.inl (sl 1)))), (a12, .inl (T 2, 30, .inr (.inr (.inl (sf 1))))), (a13, .inl (T 3, 30, .inr (.inr (.inr (.inl (sd 1)))))), (a20, .inl (T 0, 30, .inl (si 2))), (a21, .inl (T 1, 30, .inr (.inl (sl 2)))), (a22, .inl (T 2, 30, .inr (.inr (.inl (sf 2))))), (a23, .inl (T 3, 30, .inr (.inr (.inr (.inl (sd 2)))))), (a30, .inl (T 0, 30, .inl (si 3))), (a31, .inl (T 1, 30, .inr (.inl (sl 3)))), (a32, .inl (T 2, 30, .inr (.inr (.inl (sf 3))))), (a33, .inl (T 3, 30, .inr (.inr (.inr (.inl (sd 3))))))] hP hD [5, 18, 19, 20, 21] [5, 18, 19, 20, 21] rfl (by decide +kernel) rfl rfl rfl hk1 hP1
        clear hP1 hD1 hFc
        generalize H1 = H at hP hS ⊢
        refine lv_ldc2d (v := 4619567317775286272) hx hb hown (hts (.constantDouble RX12 340 (4619567317775286272)) (List.mem_of_getElem? (i := 4) rfl)) dX12_read_96 ?_
        have hFc := va_free (wc := []) hD hS hA [] rfl
        refine va_calldD hd_74 (va_runS_D (As := [.double r_72, .double 4619567317775286272]) (rest := []) ⟨hx, hb, hml, hown, hts⟩ (c_X5_remainder l D T _ r_72 4619567317775286272) (va_cwS 2 hts gX12_read_X5_remainder rfl rfl rfl hs_X5_remainder ⟨Nat.le_of_ble_eq_true rfl, Nat.le_of_ble_eq_true rfl⟩) (pW_S hP hE hD [] (by decide +kernel) rfl rfl) rfl rfl hl.1 rfl (lv_room (Nat.le_of_ble_eq_true rfl)) dX12_read_99 ⟨Nat.le_of_ble_eq_true rfl, Nat.le_of_ble_eq_true rfl⟩) hS (fun q _ h => hFc q h) hFc (fun r_75 u_76 t H1 locs ht hvm hr_75 hB hz1 hk1 hS d_77 hd_77 => ?_)
        have hts := dr_words hts0 d_77
        have hE : ekK D T (s.setDrawn d_77) := ekK.same (u := s) rfl hE0
        have hown : (s.setDrawn d_77).vm.findClass RX12 = some m.cls := hown0
        obtain ⟨hP1, hD1⟩ := hB
        rw [ht] at hP1
        obtain ⟨hP, hD⟩ := va_repl [(h0, .inr (9, fs0)), (h1, .inl (T 6, 4, .inr (.inr (.inr (.inr (va_up (va_up (va_up (va_up (fun _ => none) 0 (some t0)) 1 (some t1)) 2 (some t2)) 3 (some t3))))))), (t0, .inr (6, [.int (so 0), .int (sn 0), .ref a00, .ref a01, .ref a02, .ref a03])), (t1, .inr (6, [.int (so 1), .int (sn 1), .ref a10, .ref a11, .ref a12, .ref a13])), (t2, .inr (6, [.int (so 2), .int (sn 2), .ref a20, .ref a21, .ref a22, .ref a23])), (t3, .inr (6, [.int (so 3), .int (sn 3), .ref a30, .ref a31, .ref a32, .ref a33])), (a00, .inl (T 0, 30, .inl (si 0))), (a01, .inl (T 1, 30, .inr (.inl (sl 0)))), (a02, .inl (T 2, 30, .inr (.inr (.inl (sf 0))))), (a03, .inl (T 3, 30, .inr (.inr (.inr (.inl (sd 0)))))), (a10, .inl (T 0, 30, .inl (si 1))), (a11, .inl (T 1, 30, .inr (.inl (sl 1)))), (a12, .inl (T 2, 30, .inr (.inr (.inl (sf 1))))), (a13, .inl (T 3, 30, .inr (.inr (.inr (.inl (sd 1)))))), (a20, .inl (T 0, 30, .inl (si 2))), (a21, .inl (T 1, 30, .inr (.inl (sl 2)))), (a22, .inl (T 2, 30, .inr (.inr (.inl (sf 2))))), (a23, .inl (T 3, 30, .inr (.inr (.inr (.inl (sd 2)))))), (a30, .inl (T 0, 30, .inl (si 3))), (a31, .inl (T 1, 30, .inr (.inl (sl 3)))), (a32, .inl (T 2, 30, .inr (.inr (.inl (sf 3))))), (a33, .inl (T 3, 30, .inr (.inr (.inr (.inl (sd 3))))))] hP hD [] [] rfl (by decide +kernel) rfl rfl rfl hk1 hP1
        clear hP1 hD1 hFc
        generalize H1 = H at hP hS ⊢
        have hFc := va_free (wc := []) hD hS hA [] rfl
        refine va_calllD hd_77 (va_runS_D (As := [.double r_75]) (rest := []) ⟨hx, hb, hml, hown, hts⟩ (c_X5_doubleBits l D T _ r_75) (va_cwS 1 hts gX12_read_X5_doubleBits rfl rfl rfl hs_X5_doubleBits ⟨Nat.le_of_ble_eq_true rfl, Nat.le_of_ble_eq_true rfl⟩) (pW_S hP hE hD [] (by decide +kernel) rfl rfl) rfl rfl hl.1 rfl (lv_room (Nat.le_of_ble_eq_true rfl)) dX12_read_102 ⟨Nat.le_of_ble_eq_true rfl, Nat.le_of_ble_eq_true rfl⟩) hS (fun q _ h => hFc q h) hFc (fun r_78 u_79 t H1 locs ht hvm hr_78 hB hz1 hk1 hS d_80 hd_80 => ?_)
        have hts := dr_words hts0 d_80
        have hE : ekK D T (s.setDrawn d_80) := ekK.same (u := s) rfl hE0
        have hown : (s.setDrawn d_80).vm.findClass RX12 = some m.cls := hown0
        obtain ⟨hP1, hD1⟩ := hB
        rw [ht] at hP1
        obtain ⟨hP, hD⟩ := va_repl [(h0, .inr (9, fs0)), (h1, .inl (T 6, 4, .inr (.inr (.inr (.inr (va_up (va_up (va_up (va_up (fun _ => none) 0 (some t0)) 1 (some t1)) 2 (some t2)) 3 (some t3))))))), (t0, .inr (6, [.int (so 0), .int (sn 0), .ref a00, .ref a01, .ref a02, .ref a03])), (t1, .inr (6, [.int (so 1), .int (sn 1), .ref a10, .ref a11, .ref a12, .ref a13])), (t2, .inr (6, [.int (so 2), .int (sn 2), .ref a20, .ref a21, .ref a22, .ref a23])), (t3, .inr (6, [.int (so 3), .int (sn 3), .ref a30, .ref a31, .ref a32, .ref a33])), (a00, .inl (T 0, 30, .inl (si 0))), (a01, .inl (T 1, 30, .inr (.inl (sl 0)))), (a02, .inl (T 2, 30, .inr (.inr (.inl (sf 0))))), (a03, .inl (T 3, 30, .inr (.inr (.inr (.inl (sd 0)))))), (a10, .inl (T 0, 30, .inl (si 1))), (a11, .inl (T 1, 30, .inr (.inl (sl 1)))), (a12, .inl (T 2, 30, .inr (.inr (.inl (sf 1))))), (a13, .inl (T 3, 30, .inr (.inr (.inr (.inl (sd 1)))))), (a20, .inl (T 0, 30, .inl (si 2))), (a21, .inl (T 1, 30, .inr (.inl (sl 2)))), (a22, .inl (T 2, 30, .inr (.inr (.inl (sf 2))))), (a23, .inl (T 3, 30, .inr (.inr (.inr (.inl (sd 2)))))), (a30, .inl (T 0, 30, .inl (si 3))), (a31, .inl (T 1, 30, .inr (.inl (sl 3)))), (a32, .inl (T 2, 30, .inr (.inr (.inl (sf 3))))), (a33, .inl (T 3, 30, .inr (.inr (.inr (.inl (sd 3))))))] hP hD [] [] rfl (by decide +kernel) rfl rfl rfl hk1 hP1
        clear hP1 hD1 hFc
        generalize H1 = H at hP hS ⊢
        refine W.endD hd_80 ?_
        exact W.lret hx hb hr (fun t ht hW => ⟨⟨_, (), rfl, trivial, by rw [ht]; exact hP.sub [0, 1, 2, 3, 4, 5, 6, 7, 8, 9, 10, 11, 12, 13, 14, 15, 16, 17, 18, 19, 20, 21] rfl, hD.sub [0, 1, 2, 3, 4, 5, 6, 7, 8, 9, 10, 11, 12, 13, 14, 15, 16, 17, 18, 19, 20, 21] (by decide +kernel) rfl⟩, hS.F ht⟩) hS.2.2 dX12_read_105
    · rw [fa_eq] at c_4
      try rw [ti_0] at c_4
      refine lv_ldc2 (v := (-4611686018427387904)) hx hb hown (hts (.constantLong RX12 324 (-4611686018427387904)) (List.mem_of_getElem? (i := 2) rfl)) dX12_read_26 ?_
      refine lv_iload hx hb dX12_read_29 (lv_at hl 0 rfl) ?_
      refine lv_i2l hx hb dX12_read_31 rfl ?_
      refine lv_ladd hx hb dX12_read_32 ?_
      refine W.endD hd0 ?_
      exact W.lret hx hb hr (fun t ht hW => ⟨⟨_, (), rfl, trivial, by rw [ht]; exact hP.sub [0, 1, 2, 3, 4, 5, 6, 7, 8, 9, 10, 11, 12, 13, 14, 15, 16, 17, 18, 19, 20, 21] rfl, hD.sub [0, 1, 2, 3, 4, 5, 6, 7, 8, 9, 10, 11, 12, 13, 14, 15, 16, 17, 18, 19, 20, 21] (by decide +kernel) rfl⟩, hS.F ht⟩) hS.2.2 dX12_read_33
  · refine lv_if_ne (tgt := 13) hx hb dX12_read_6 (by decide +kernel) (fun c9 => absurd c9 (by decide +kernel)) (fun _ => ?_)
    refine lv_ldc2 (v := (-4611686018427387906)) hx hb hown (hts (.constantLong RX12 183 (-4611686018427387906)) (List.mem_of_getElem? (i := 1) rfl)) dX12_read_9 ?_
    refine W.endD hd0 ?_
    exact W.lret hx hb hr (fun t ht hW => ⟨⟨_, (), rfl, trivial, by rw [ht]; exact hP.sub [0, 1, 2, 3, 4, 5, 6, 7, 8, 9, 10, 11, 12, 13, 14, 15, 16, 17, 18, 19, 20, 21] rfl, hD.sub [0, 1, 2, 3, 4, 5, 6, 7, 8, 9, 10, 11, 12, 13, 14, 15, 16, 17, 18, 19, 20, 21] (by decide +kernel) rfl⟩, hS.F ht⟩) hS.2.2 dX12_read_12
theorem dX12_valueAs_0 : decode cX12_valueAs 0 = .ok (.aload_n 0, 1) := by decide +kernel
theorem dX12_valueAs_1 : decode cX12_valueAs 1 = .ok (.getfield 32, 3) := by decide +kernel
theorem dX12_valueAs_11 : decode cX12_valueAs 11 = .ok (.iload_n 2, 1) := by decide +kernel
theorem dX12_valueAs_12 : decode cX12_valueAs 12 = .ok (.iload_n 3, 1) := by decide +kernel
theorem dX12_valueAs_124 : decode cX12_valueAs 124 = .ok (.dload 6, 2) := by decide +kernel
theorem dX12_valueAs_126 : decode cX12_valueAs 126 = .ok (.ldc2_w 209, 3) := by decide +kernel
theorem dX12_valueAs_129 : decode cX12_valueAs 129 = .ok (.dmul, 1) := by decide +kernel
theorem dX12_valueAs_13 : decode cX12_valueAs 13 = .ok (.invokestatic 108, 3) := by decide +kernel
theorem dX12_valueAs_130 : decode cX12_valueAs 130 = .ok (.d2l, 1) := by decide +kernel
theorem dX12_valueAs_131 : decode cX12_valueAs 131 = .ok (.lreturn, 1) := by decide +kernel
theorem dX12_valueAs_132 : decode cX12_valueAs 132 = .ok (.dload 6, 2) := by decide +kernel
theorem dX12_valueAs_134 : decode cX12_valueAs 134 = .ok (.d2f, 1) := by decide +kernel
theorem dX12_valueAs_135 : decode cX12_valueAs 135 = .ok (.invokestatic 211, 3) := by decide +kernel
theorem dX12_valueAs_138 : decode cX12_valueAs 138 = .ok (.i2l, 1) := by decide +kernel
theorem dX12_valueAs_139 : decode cX12_valueAs 139 = .ok (.lreturn, 1) := by decide +kernel
theorem dX12_valueAs_140 : decode cX12_valueAs 140 = .ok (.dload 6, 2) := by decide +kernel
theorem dX12_valueAs_142 : decode cX12_valueAs 142 = .ok (.invokestatic 217, 3) := by decide +kernel
theorem dX12_valueAs_145 : decode cX12_valueAs 145 = .ok (.lreturn, 1) := by decide +kernel
theorem dX12_valueAs_146 : decode cX12_valueAs 146 = .ok (.dload 6, 2) := by decide +kernel
theorem dX12_valueAs_148 : decode cX12_valueAs 148 = .ok (.dconst 1, 1) := by decide +kernel
theorem dX12_valueAs_149 : decode cX12_valueAs 149 = .ok (.invokestatic 221, 3) := by decide +kernel
theorem dX12_valueAs_152 : decode cX12_valueAs 152 = .ok (.ldc2_w 225, 3) := by decide +kernel
theorem dX12_valueAs_155 : decode cX12_valueAs 155 = .ok (.dmul, 1) := by decide +kernel
theorem dX12_valueAs_156 : decode cX12_valueAs 156 = .ok (.d2i, 1) := by decide +kernel
theorem dX12_valueAs_157 : decode cX12_valueAs 157 = .ok (.i2l, 1) := by decide +kernel
theorem dX12_valueAs_158 : decode cX12_valueAs 158 = .ok (.lreturn, 1) := by decide +kernel
theorem dX12_valueAs_159 : decode cX12_valueAs 159 = .ok (.dload 6, 2) := by decide +kernel
theorem dX12_valueAs_16 : decode cX12_valueAs 16 = .ok (.ifCond .eq 13, 3) := by decide +kernel
theorem dX12_valueAs_161 : decode cX12_valueAs 161 = .ok (.ldc2_w 227, 3) := by decide +kernel
theorem dX12_valueAs_164 : decode cX12_valueAs 164 = .ok (.invokestatic 221, 3) := by decide +kernel
theorem dX12_valueAs_167 : decode cX12_valueAs 167 = .ok (.invokestatic 217, 3) := by decide +kernel
theorem dX12_valueAs_170 : decode cX12_valueAs 170 = .ok (.lreturn, 1) := by decide +kernel
theorem dX12_valueAs_171 : decode cX12_valueAs 171 = .ok (.dload 6, 2) := by decide +kernel
theorem dX12_valueAs_173 : decode cX12_valueAs 173 = .ok (.d2f, 1) := by decide +kernel
theorem dX12_valueAs_174 : decode cX12_valueAs 174 = .ok (.f2d, 1) := by decide +kernel
theorem dX12_valueAs_175 : decode cX12_valueAs 175 = .ok (.ldc2_w 229, 3) := by decide +kernel
theorem dX12_valueAs_178 : decode cX12_valueAs 178 = .ok (.invokestatic 221, 3) := by decide +kernel
theorem dX12_valueAs_181 : decode cX12_valueAs 181 = .ok (.d2f, 1) := by decide +kernel
theorem dX12_valueAs_182 : decode cX12_valueAs 182 = .ok (.invokestatic 211, 3) := by decide +kernel
theorem dX12_valueAs_185 : decode cX12_valueAs 185 = .ok (.i2l, 1) := by decide +kernel
theorem dX12_valueAs_186 : decode cX12_valueAs 186 = .ok (.lreturn, 1) := by decide +kernel
theorem dX12_valueAs_19 : decode cX12_valueAs 19 = .ok (.iload 4, 2) := by decide +kernel
theorem dX12_valueAs_21 : decode cX12_valueAs 21 = .ok (.iconst 0, 1) := by decide +kernel
theorem dX12_valueAs_22 : decode cX12_valueAs 22 = .ok (.iconst 5, 1) := by decide +kernel
theorem dX12_valueAs_23 : decode cX12_valueAs 23 = .ok (.invokestatic 77, 3) := by decide +kernel
theorem dX12_valueAs_26 : decode cX12_valueAs 26 = .ok (.ifCond .ne 7, 3) := by decide +kernel
theorem dX12_valueAs_29 : decode cX12_valueAs 29 = .ok (.ldc2_w 183, 3) := by decide +kernel
theorem dX12_valueAs_32 : decode cX12_valueAs 32 = .ok (.lreturn, 1) := by decide +kernel
theorem dX12_valueAs_33 : decode cX12_valueAs 33 = .ok (.aload_n 0, 1) := by decide +kernel
theorem dX12_valueAs_34 : decode cX12_valueAs 34 = .ok (.getfield 43, 3) := by decide +kernel
theorem dX12_valueAs_37 : decode cX12_valueAs 37 = .ok (.iload_n 1, 1) := by decide +kernel
theorem dX12_valueAs_38 : decode cX12_valueAs 38 = .ok (.iload_n 2, 1) := by decide +kernel
theorem dX12_valueAs_39 : decode cX12_valueAs 39 = .ok (.iload_n 3, 1) := by decide +kernel
theorem dX12_valueAs_4 : decode cX12_valueAs 4 = .ok (.iload_n 1, 1) := by decide +kernel
theorem dX12_valueAs_40 : decode cX12_valueAs 40 = .ok (.invokevirtual 185, 3) := by decide +kernel
theorem dX12_valueAs_43 : decode cX12_valueAs 43 = .ok (.istore 5, 2) := by decide +kernel
theorem dX12_valueAs_45 : decode cX12_valueAs 45 = .ok (.aload_n 0, 1) := by decide +kernel
theorem dX12_valueAs_46 : decode cX12_valueAs 46 = .ok (.getfield 43, 3) := by decide +kernel
theorem dX12_valueAs_49 : decode cX12_valueAs 49 = .ok (.iload 5, 2) := by decide +kernel
theorem dX12_valueAs_5 : decode cX12_valueAs 5 = .ok (.invokevirtual 150, 3) := by decide +kernel
theorem dX12_valueAs_51 : decode cX12_valueAs 51 = .ok (.invokevirtual 197, 3) := by decide +kernel
theorem dX12_valueAs_54 : decode cX12_valueAs 54 = .ok (.ifCond .eq 7, 3) := by decide +kernel
theorem dX12_valueAs_57 : decode cX12_valueAs 57 = .ok (.ldc2_w 200, 3) := by decide +kernel
theorem dX12_valueAs_60 : decode cX12_valueAs 60 = .ok (.lreturn, 1) := by decide +kernel
theorem dX12_valueAs_61 : decode cX12_valueAs 61 = .ok (.aload_n 0, 1) := by decide +kernel
theorem dX12_valueAs_62 : decode cX12_valueAs 62 = .ok (.getfield 43, 3) := by decide +kernel
theorem dX12_valueAs_65 : decode cX12_valueAs 65 = .ok (.getfield 202, 3) := by decide +kernel
theorem dX12_valueAs_68 : decode cX12_valueAs 68 = .ok (.iload 5, 2) := by decide +kernel
theorem dX12_valueAs_70 : decode cX12_valueAs 70 = .ok (.laload, 1) := by decide +kernel
theorem dX12_valueAs_71 : decode cX12_valueAs 71 = .ok (.l2d, 1) := by decide +kernel
theorem dX12_valueAs_72 : decode cX12_valueAs 72 = .ok (.aload_n 0, 1) := by decide +kernel
theorem dX12_valueAs_73 : decode cX12_valueAs 73 = .ok (.getfield 43, 3) := by decide +kernel
theorem dX12_valueAs_76 : decode cX12_valueAs 76 = .ok (.getfield 206, 3) := by decide +kernel
theorem dX12_valueAs_79 : decode cX12_valueAs 79 = .ok (.iload 5, 2) := by decide +kernel
theorem dX12_valueAs_8 : decode cX12_valueAs 8 = .ok (.ifCond .eq 21, 3) := by decide +kernel
theorem dX12_valueAs_81 : decode cX12_valueAs 81 = .ok (.laload, 1) := by decide +kernel
theorem dX12_valueAs_82 : decode cX12_valueAs 82 = .ok (.l2d, 1) := by decide +kernel
theorem dX12_valueAs_83 : decode cX12_valueAs 83 = .ok (.ddiv, 1) := by decide +kernel
theorem dX12_valueAs_84 : decode cX12_valueAs 84 = .ok (.dstore 6, 2) := by decide +kernel
theorem dX12_valueAs_86 : decode cX12_valueAs 86 = .ok (.iload 4, 2) := by decide +kernel
theorem dX12_valueAs_88 : decode cX12_valueAs 88 = .ok (.tableswitch 83 0 4 #[36, 44, 52, 58, 71], 36) := by decide +kernel
set_option maxRecDepth 20000 in
theorem ggX12_valueAs_X11_isMuch : GoodIn wsX12_valueAs wsX11_isMuch := goodIn_r _ [108, 61, 164, 165, 166, 167, 168, 169] rfl (by decide +kernel)
set_option maxRecDepth 40000 in
theorem ggX12_valueAs_X11_settle_0 : GoodIn wsX12_valueAs [.code yX11_settle cX11_settle 8 (some .int)] := goodIn_r _ [31] rfl (by decide +kernel)
set_option maxRecDepth 40000 in
theorem ggX12_valueAs_X11_settle_1 : GoodIn wsX12_valueAs wsX11_settle_r1 := goodIn_r _ [32, 33, 34, 35, 36, 37, 38, 39, 40, 41, 42, 43, 44, 45, 46, 14, 47, 48, 49, 50, 51, 52, 53, 54] rfl (by decide +kernel)
set_option maxRecDepth 40000 in
theorem ggX12_valueAs_X11_settle_2 : GoodIn wsX12_valueAs wsX11_settle_r2 := goodIn_r _ [55, 56, 57, 58, 30, 59, 60, 61, 62, 28, 29, 63, 64, 65, 66, 67, 68, 69, 70, 71, 72, 73, 74, 75] rfl (by decide +kernel)
set_option maxRecDepth 40000 in
theorem ggX12_valueAs_X11_settle_3 : GoodIn wsX12_valueAs wsX11_settle_r3 := goodIn_r _ [76, 77, 78, 79, 80, 81, 82, 83, 84, 85, 86, 87, 88, 89, 90, 91, 92, 93, 94, 95, 96, 97, 98, 99] rfl (by decide +kernel)
set_option maxRecDepth 40000 in
theorem ggX12_valueAs_X11_settle_4 : GoodIn wsX12_valueAs wsX11_settle_r4 := goodIn_r _ [100, 101, 102, 103, 104, 105, 106, 107, 108, 109, 110, 111, 112, 113, 114, 115, 116, 117, 118, 119, 120, 121, 122, 123] rfl (by decide +kernel)
set_option maxRecDepth 40000 in
theorem ggX12_valueAs_X11_settle_5 : GoodIn wsX12_valueAs wsX11_settle_r5 := goodIn_r _ [124, 125, 126, 127, 128, 129, 130, 131, 132] rfl (by decide +kernel)
set_option maxRecDepth 40000 in
theorem ggX12_valueAs_X11_settle_6 : GoodIn wsX12_valueAs wsX110 := goodIn_r _ [164, 165, 166, 167, 168, 169] rfl (by decide +kernel)
set_option maxRecDepth 40000 in
theorem ggX12_valueAs_X11_settle_7 : GoodIn wsX12_valueAs wsX80 := goodIn_r _ [178, 179, 180, 181, 182, 183, 184] rfl (by decide +kernel)
set_option maxRecDepth 40000 in
theorem ggX12_valueAs_X11_settle_8 : GoodIn wsX12_valueAs wsX20 := goodIn_r _ [170, 171, 172, 173, 174, 175, 176, 177] rfl (by decide +kernel)
set_option maxRecDepth 40000 in
theorem ggX12_valueAs_X11_settle : GoodIn wsX12_valueAs wsX11_settle := (goodIn_app ggX12_valueAs_X11_settle_0 (goodIn_app (goodIn_app (goodIn_app (goodIn_app ggX12_valueAs_X11_settle_1 (goodIn_app ggX12_valueAs_X11_settle_2 (goodIn_app ggX12_valueAs_X11_settle_3 (goodIn_app ggX12_valueAs_X11_settle_4 ggX12_valueAs_X11_settle_5)))) ggX12_valueAs_X11_settle_6) ggX12_valueAs_X11_settle_7) ggX12_valueAs_X11_settle_8))
set_option maxRecDepth 20000 in
theorem ggX12_valueAs_X12_isSpot : GoodIn wsX12_valueAs wsX12_isSpot := goodIn_r _ [22, 23, 24, 18, 25, 26, 17, 19] rfl (by decide +kernel)
set_option maxRecDepth 20000 in
theorem ggX12_valueAs_X12_within : GoodIn wsX12_valueAs wsX12_within := goodIn_r _ [19] rfl (by decide +kernel)
set_option maxRecDepth 20000 in
theorem ggX12_valueAs_X2_has : GoodIn wsX12_valueAs wsX2_has := goodIn_r _ [15, 16, 17, 18, 19, 170, 171, 172, 173, 174, 175, 176, 177] rfl (by decide +kernel)
set_option maxRecDepth 20000 in
theorem ggX12_valueAs_X5_doubleBits : GoodIn wsX12_valueAs wsX5_doubleBits := goodIn_r _ [148, 149, 139, 140, 136, 141, 142, 143, 144, 145] rfl (by decide +kernel)
set_option maxRecDepth 20000 in
theorem ggX12_valueAs_X5_floatBits : GoodIn wsX12_valueAs wsX5_floatBits := goodIn_r _ [137, 138, 139, 140, 136, 141, 142, 143, 144, 145] rfl (by decide +kernel)
set_option maxRecDepth 20000 in
theorem ggX12_valueAs_X5_remainder : GoodIn wsX12_valueAs wsX5_remainder := goodIn_r _ [152, 142] rfl (by decide +kernel)
set_option maxRecDepth 20000 in
theorem gX12_valueAs_X11_isMuch : GoodIn wsX12_valueAs (wsV RX12 197 RX11 yX11_isMuch wsX11_isMuch) := goodIn_app (goodIn_r _ [133, 106, 107, 30] rfl (by decide +kernel)) ggX12_valueAs_X11_isMuch
set_option maxRecDepth 20000 in
theorem gX12_valueAs_X11_settle : GoodIn wsX12_valueAs (wsV RX12 185 RX11 yX11_settle wsX11_settle) := goodIn_app (goodIn_r _ [27, 28, 29, 30] rfl (by decide +kernel)) ggX12_valueAs_X11_settle
set_option maxRecDepth 20000 in
theorem gX12_valueAs_X12_isSpot : GoodIn wsX12_valueAs (va_wsS RX12 108 yX12_isSpot wsX12_isSpot) := goodIn_app (goodIn_of _ (by decide +kernel)) ggX12_valueAs_X12_isSpot
set_option maxRecDepth 20000 in
theorem gX12_valueAs_X12_within : GoodIn wsX12_valueAs (va_wsS RX12 77 yX12_within wsX12_within) := goodIn_app (goodIn_of _ (by decide +kernel)) ggX12_valueAs_X12_within
set_option maxRecDepth 20000 in
theorem gX12_valueAs_X2_has : GoodIn wsX12_valueAs (wsV RX12 150 RX2 yX2_has wsX2_has) := goodIn_app (goodIn_r _ [11, 12, 13, 14] rfl (by decide +kernel)) ggX12_valueAs_X2_has
set_option maxRecDepth 20000 in
theorem gX12_valueAs_X5_doubleBits : GoodIn wsX12_valueAs (va_wsS RX12 217 yX5_doubleBits wsX5_doubleBits) := goodIn_app (goodIn_of _ (by decide +kernel)) ggX12_valueAs_X5_doubleBits
set_option maxRecDepth 20000 in
theorem gX12_valueAs_X5_floatBits : GoodIn wsX12_valueAs (va_wsS RX12 211 yX5_floatBits wsX5_floatBits) := goodIn_app (goodIn_of _ (by decide +kernel)) ggX12_valueAs_X5_floatBits
set_option maxRecDepth 20000 in
theorem gX12_valueAs_X5_remainder : GoodIn wsX12_valueAs (va_wsS RX12 221 yX5_remainder wsX5_remainder) := goodIn_app (goodIn_of _ (by decide +kernel)) ggX12_valueAs_X5_remainder
set_option maxRecDepth 20000 in
theorem in_X12_valueAs_X11 : ∀ w ∈ wsX110, w ∈ wsX12_valueAs := sub_r [164, 165, 166, 167, 168, 169] rfl
set_option maxRecDepth 20000 in
theorem in_X12_valueAs_X12 : ∀ w ∈ wsX120, w ∈ wsX12_valueAs := sub_r [153, 154, 155, 156, 157, 158, 159, 160, 161, 162, 163] rfl
set_option maxHeartbeats 4000000 in
set_option maxRecDepth 100000 in
theorem c_X12_valueAs (l : Launch) (D : va_G) (T : Nat → ClassId) (ad sa av : Nat → Nat) (ta : Nat) (sz : Nat) (h0 : Nat) (wo : Nat) (fs0 : List Value) (la : Nat) (cl : Nat) (p0 : Nat) (p1 : Nat) (p4 : Nat) (n : Int32) (l9 : Nat → Int32) (n0 : Int32) (c1 : Nat) (c2 : Nat) (c3 : Nat) (c4 : Nat) (c5 : Nat) (c6 : Nat) (c7 : Nat) (f1 : Nat → Int32) (f2 : Nat → Int32) (f3 : Nat → Int32) (f4 : Nat → Int32) (f5 : Nat → Int32) (g0 : Nat → Int64) (g1 : Nat → Int64) (g4 : Nat → Int32) (x1 : Int32) (x2 : Int32) (x3 : Int32) (x4 : Int32) (e0_4 : fs0[4]? = some (.ref cl)) (e0_6 : fs0[6]? = some (.ref wo)) (hn0 : 0 ≤ n0.toInt ∧ n0.toInt ≤ 24) (hok : okC f1 f3 f4 f5) (hmm : memW (VALW l9 f1 f2 f3 f4 f5) n0 n g0 g1 g4) (hlq : (1 ≤ (l9 4).toInt ∧ (l9 4).toInt ≤ 9) ∧ 1 ≤ (l9 6).toInt ∧ (l9 6).toInt ≤ 9) : MetD lw_cs l yX12_valueAs wsX12_valueAs ({ frames := 67, cells := 0, slots := 0, locals := 2197 }) (pWk [.ref h0, .int x1, .int x2, .int x3, .int x4] D T [(h0, .inr (9, fs0)), (wo, .inr (8, [.ref la, .ref cl, .ref p0, .ref p1, .ref p4, .int n])), (la, .inr (5, [.int (l9 0), .int (l9 1), .int (l9 2), .int (l9 3), .int (l9 4), .int (l9 5), .int (l9 6)])), (cl, .inr (1, [.int n0, .ref c1, .ref c2, .ref c3, .ref c4, .ref c5, .ref c6, .ref c7])), (c1, .inl (T 0, 24, .inl f1)), (c2, .inl (T 0, 24, .inl f2)), (c3, .inl (T 0, 24, .inl f3)), (c4, .inl (T 0, 24, .inl f4)), (c5, .inl (T 0, 24, .inl f5)), (p0, .inl (T 1, 676, .inr (.inl g0))), (p1, .inl (T 1, 676, .inr (.inl g1))), (p4, .inl (T 0, 672, .inl g4))] sz ad sa av ta) (va_Ql (fun (r : Int64) (u : (Nat → Int64) × (Nat → Int64) × (Nat → Int32)) => stW (VALW l9 f1 f2 f3 f4 f5) n0 n (fun _ => True) g0 g1 g4 u.1 u.2.1 u.2.2) (bW D (va_A [(h0, .inr (9, fs0)), (wo, .inr (8, [.ref la, .ref cl, .ref p0, .ref p1, .ref p4, .int n])), (la, .inr (5, [.int (l9 0), .int (l9 1), .int (l9 2), .int (l9 3), .int (l9 4), .int (l9 5), .int (l9 6)])), (cl, .inr (1, [.int n0, .ref c1, .ref c2, .ref c3, .ref c4, .ref c5, .ref c6, .ref c7])), (c1, .inl (T 0, 24, .inl f1)), (c2, .inl (T 0, 24, .inl f2)), (c3, .inl (T 0, 24, .inl f3)), (c4, .inl (T 0, 24, .inl f4)), (c5, .inl (T 0, 24, .inl f5)), (p0, .inl (T 1, 676, .inr (.inl g0))), (p1, .inl (T 1, 676, .inr (.inl g1))), (p4, .inl (T 0, 672, .inl g4))] sz) (fun (u : (Nat → Int64) × (Nat → Int64) × (Nat → Int32)) => [(h0, .inr (9, fs0)), (wo, .inr (8, [.ref la, .ref cl, .ref p0, .ref p1, .ref p4, .int n])), (la, .inr (5, [.int (l9 0), .int (l9 1), .int (l9 2), .int (l9 3), .int (l9 4), .int (l9 5), .int (l9 6)])), (cl, .inr (1, [.int n0, .ref c1, .ref c2, .ref c3, .ref c4, .ref c5, .ref c6, .ref c7])), (c1, .inl (T 0, 24, .inl f1)), (c2, .inl (T 0, 24, .inl f2)), (c3, .inl (T 0, 24, .inl f3)), (c4, .inl (T 0, 24, .inl f4)), (c5, .inl (T 0, 24, .inl f5)), (p0, .inl (T 1, 676, .inr (.inl u.1))), (p1, .inl (T 1, 676, .inr (.inl u.2.1))), (p4, .inl (T 0, 672, .inl u.2.2))])) (va_A [(h0, .inr (9, fs0)), (wo, .inr (8, [.ref la, .ref cl, .ref p0, .ref p1, .ref p4, .int n])), (la, .inr (5, [.int (l9 0), .int (l9 1), .int (l9 2), .int (l9 3), .int (l9 4), .int (l9 5), .int (l9 6)])), (cl, .inr (1, [.int n0, .ref c1, .ref c2, .ref c3, .ref c4, .ref c5, .ref c6, .ref c7])), (c1, .inl (T 0, 24, .inl f1)), (c2, .inl (T 0, 24, .inl f2)), (c3, .inl (T 0, 24, .inl f3)), (c4, .inl (T 0, 24, .inl f4)), (c5, .inl (T 0, 24, .inl f5)), (p0, .inl (T 1, 676, .inr (.inl g0))), (p1, .inl (T 1, 676, .inr (.inl g1))), (p4, .inl (T 0, 672, .inl g4))] sz)) 0 0 (va_A [(h0, .inr (9, fs0)), (wo, .inr (8, [.ref la, .ref cl, .ref p0, .ref p1, .ref p4, .int n])), (la, .inr (5, [.int (l9 0), .int (l9 1), .int (l9 2), .int (l9 3), .int (l9 4), .int (l9 5), .int (l9 6)])), (cl, .inr (1, [.int n0, .ref c1, .ref c2, .ref c3, .ref c4, .ref c5, .ref c6, .ref c7])), (c1, .inl (T 0, 24, .inl f1)), (c2, .inl (T 0, 24, .inl f2)), (c3, .inl (T 0, 24, .inl f3)), (c4, .inl (T 0, 24, .inl f4)), (c5, .inl (T 0, 24, .inl f5)), (p0, .inl (T 1, 676, .inr (.inl g0))), (p1, .inl (T 1, 676, .inr (.inl g1))), (p4, .inl (T 0, 672, .inl g4))] sz) := by
  refine MetD.ofW (cc := cX12_valueAs) (maxL := 8) (ret := (some .long)) (by decide +kernel) rfl ?_
  intro p e s m args below meth c s₁ B hml hv hd0
  obtain ⟨rfl, hsz, hP, hE0, hD0, hV0⟩ := hv
  have hx := B.exec
  have hb := B.bytes
  have hr := B.returns
  have hts0 := atoms_spec (ws := wsX12_valueAs) B.pre
  have hown0 : s.vm.findClass RX12 = some m.cls := findClass_of_methodNamed B.named
  have hlocks := B.notSynchronized
  subst hsz
  have hD := hD0.self (sz := s.heap.size)
  generalize hAe : va_A [(h0, .inr (9, fs0)), (wo, .inr (8, [.ref la, .ref cl, .ref p0, .ref p1, .ref p4, .int n])), (la, .inr (5, [.int (l9 0), .int (l9 1), .int (l9 2), .int (l9 3), .int (l9 4), .int (l9 5), .int (l9 6)])), (cl, .inr (1, [.int n0, .ref c1, .ref c2, .ref c3, .ref c4, .ref c5, .ref c6, .ref c7])), (c1, .inl (T 0, 24, .inl f1)), (c2, .inl (T 0, 24, .inl f2)), (c3, .inl (T 0, 24, .inl f3)), (c4, .inl (T 0, 24, .inl f4)), (c5, .inl (T 0, 24, .inl f5)), (p0, .inl (T 1, 676, .inr (.inl g0))), (p1, .inl (T 1, 676, .inr (.inl g1))), (p4, .inl (T 0, 672, .inl g4))] s.heap.size = A at hD hV0 ⊢
  have hA : ∀ q : Nat, s.heap.size ≤ q → A q := fun q h => by rw [← hAe]; exact Or.inr h
  have hS : va_S A s.heap s.heap [] := va_S.rf
  have hP : va_P D vwCl [(h0, .inr (9, fs0)), (wo, .inr (8, [.ref la, .ref cl, .ref p0, .ref p1, .ref p4, .int n])), (la, .inr (5, [.int (l9 0), .int (l9 1), .int (l9 2), .int (l9 3), .int (l9 4), .int (l9 5), .int (l9 6)])), (cl, .inr (1, [.int n0, .ref c1, .ref c2, .ref c3, .ref c4, .ref c5, .ref c6, .ref c7])), (c1, .inl (T 0, 24, .inl f1)), (c2, .inl (T 0, 24, .inl f2)), (c3, .inl (T 0, 24, .inl f3)), (c4, .inl (T 0, 24, .inl f4)), (c5, .inl (T 0, 24, .inl f5)), (p0, .inl (T 1, 676, .inr (.inl g0))), (p1, .inl (T 1, 676, .inr (.inl g1))), (p4, .inl (T 0, 672, .inl g4))] s.heap := hP
  have hl := lv_entry ([.ref h0, .int x1, .int x2, .int x3, .int x4]) (n := 8) (Nat.le_of_ble_eq_true rfl)
  rw [lg_entry_eq]
  generalize (lg_sl ([.ref h0, .int x1, .int x2, .int x3, .int x4]) ++ List.replicate (8 - (lg_sl ([.ref h0, .int x1, .int x2, .int x3, .int x4])).length) Slot.unset).toArray = ls at hl ⊢
  have hl : lv_has ls 8 [(0, .ref h0), (1, .int x1), (2, .int x2), (3, .int x3), (4, .int x4)] := hl
  clear hD0
  have hts := dr_words hts0 s.drawn
  have hE : ekK D T (s.setDrawn s.drawn) := ekK.same (u := s) rfl hE0
  have hown : (s.setDrawn s.drawn).vm.findClass RX12 = some m.cls := hown0
  have hV : evK ad sa av ta A (s.setDrawn s.drawn) (s.setDrawn s.drawn).heap := evK.same (u := s) rfl hV0
  have hst : stW (VALW l9 f1 f2 f3 f4 f5) n0 n (fun _ => True) g0 g1 g4 g0 g1 g4 := stW_rf hmm
  refine lv_aload_n hx hb dX12_valueAs_0 rfl (lv_at hl 0 rfl) ?_
  refine va_get (D := D) (ci := 9) (v := .ref cl) (C := RX12) (T := TX12) (N := 11) hx hb hts in_X12_valueAs_X12 hown hE.1 hP 0 rfl rfl 4 (by decide +kernel) (hts (.fieldLink RX12 32 "ClauseBook" "clauses" "LClauseBook$Clauses;") (List.mem_of_getElem? (i := 1) rfl)) (fun _ h9 => h9) e0_4 dX12_valueAs_1 ?_
  refine lv_iload_n hx hb dX12_valueAs_4 rfl (lv_at hl 1 rfl) ?_
  refine vp_callSi (W.runV (As := [.int x1]) (rest := []) ⟨hx, hb, hml, hown, hts⟩ (c_X2_has l D T cl [.int n0, .ref c1, .ref c2, .ref c3, .ref c4, .ref c5, .ref c6, .ref c7] x1 n0 rfl (by omega)) (cwV 1 hts gX12_valueAs_X2_has rfl rfl rfl hv_X2_has ⟨Nat.le_of_ble_eq_true rfl, Nat.le_of_ble_eq_true rfl⟩) (pR_V (q := (RX2, TX2, 8)) (ci := 1) (q0 := 3) hP hE rfl rfl [3] rfl) rfl rfl hl.1 rfl (lv_room (Nat.le_of_ble_eq_true rfl)) dX12_valueAs_5 ⟨Nat.le_of_ble_eq_true rfl, Nat.le_of_ble_eq_true rfl⟩) (fun r_1 hr_1 => ?_)
  rcases bool_post hr_1 with ⟨c_2, rfl⟩ | ⟨c_2, rfl⟩
  · refine lv_if_eq (tgt := 29) hx hb dX12_valueAs_8 (by decide +kernel) (fun c9 => absurd c9 (by decide +kernel)) (fun _ => ?_)
    refine lv_iload_n hx hb dX12_valueAs_11 rfl (lv_at hl 2 rfl) ?_
    refine lv_iload_n hx hb dX12_valueAs_12 rfl (lv_at hl 3 rfl) ?_
    refine vp_callSi (W.runS (As := [.int x2, .int x3]) (rest := []) ⟨hx, hb, hml, hown, hts⟩ (c_X12_isSpot l D T x2 x3) (va_cwS 2 hts gX12_valueAs_X12_isSpot rfl rfl rfl hs_X12_isSpot ⟨Nat.le_of_ble_eq_true rfl, Nat.le_of_ble_eq_true rfl⟩) (pR_S hP hE [] rfl) rfl rfl hl.1 rfl (lv_room (Nat.le_of_ble_eq_true rfl)) dX12_valueAs_13 ⟨Nat.le_of_ble_eq_true rfl, Nat.le_of_ble_eq_true rfl⟩) (fun r_3 hr_3 => ?_)
    rcases bool_post hr_3 with ⟨c_4, rfl⟩ | ⟨c_4, rfl⟩
    · refine lv_if_eq (tgt := 29) hx hb dX12_valueAs_16 (by decide +kernel) (fun c9 => absurd c9 (by decide +kernel)) (fun _ => ?_)
      refine lv_iload hx hb dX12_valueAs_19 (lv_at hl 4 rfl) ?_
      refine lv_iconst (v := 0) hx hb dX12_valueAs_21 (by decide +kernel) ?_
      refine lv_iconst (v := 5) hx hb dX12_valueAs_22 (by decide +kernel) ?_
      refine vp_callSi (W.runS (As := [.int x4, .int 0, .int 5]) (rest := []) ⟨hx, hb, hml, hown, hts⟩ (c_X12_within l D T x4 0 5 0 5 (by decide +kernel) (by decide +kernel)) (va_cwS 3 hts gX12_valueAs_X12_within rfl rfl rfl hs_X12_within ⟨Nat.le_of_ble_eq_true rfl, Nat.le_of_ble_eq_true rfl⟩) (pR_S hP hE [] rfl) rfl rfl hl.1 rfl (lv_room (Nat.le_of_ble_eq_true rfl)) dX12_valueAs_23 ⟨Nat.le_of_ble_eq_true rfl, Nat.le_of_ble_eq_true rfl⟩) (fun r_5 hr_5 => ?_)
      rcases bool_post hr_5 with ⟨c_6, rfl⟩ | ⟨c_6, rfl⟩
      · refine lv_if_ne (tgt := 33) hx hb dX12_valueAs_26 (by decide +kernel) (fun _ => ?_) (fun c9 => absurd c9 (by decide +kernel))
        refine lv_aload_n hx hb dX12_valueAs_33 rfl (lv_at hl 0 rfl) ?_
        refine va_get (D := D) (ci := 9) (v := .ref wo) (C := RX12) (T := TX12) (N := 11) hx hb hts in_X12_valueAs_X12 hown hE.1 hP 0 rfl rfl 6 (by decide +kernel) (hts (.fieldLink RX12 43 "ClauseBook" "worth" "LClauseBook$Worth;") (List.mem_of_getElem? (i := 3) rfl)) (fun _ h9 => h9) e0_6 dX12_valueAs_34 ?_
        refine lv_iload_n hx hb dX12_valueAs_37 rfl (lv_at hl 1 rfl) ?_
        refine lv_iload_n hx hb dX12_valueAs_38 rfl (lv_at hl 2 rfl) ?_
        refine lv_iload_n hx hb dX12_valueAs_39 rfl (lv_at hl 3 rfl) ?_
        have hFc := va_free (wc := [(wo, .inr (8, [.ref la, .ref cl, .ref p0, .ref p1, .ref p4, .int n])), (la, .inr (5, [.int (l9 0), .int (l9 1), .int (l9 2), .int (l9 3), .int (l9 4), .int (l9 5), .int (l9 6)])), (cl, .inr (1, [.int n0, .ref c1, .ref c2, .ref c3, .ref c4, .ref c5, .ref c6, .ref c7])), (c1, .inl (T 0, 24, .inl f1)), (c2, .inl (T 0, 24, .inl f2)), (c3, .inl (T 0, 24, .inl f3)), (c4, .inl (T 0, 24, .inl f4)), (c5, .inl (T 0, 24, .inl f5)), (p0, .inl (T 1, 676, .inr (.inl g0))), (p1, .inl (T 1, 676, .inr (.inl g1))), (p4, .inl (T 0, 672, .inl g4))]) hD hS hA [1, 2, 3, 4, 5, 6, 7, 8, 9, 10, 11] rfl
        refine va_calli (va_runV (As := [.int x1, .int x2, .int x3]) (rest := []) ⟨hx, hb, hml, hown, hts⟩ (cS_all l D T ad sa av ta 30 _ wo la cl p0 p1 p4 n l9 n0 c1 c2 c3 c4 c5 c6 c7 f1 f2 f3 f4 f5 g0 g1 g4 x1 x2 x3 (by omega) (by omega) (by omega) hok (by omega) hmm hlq (by omega)) (cwV 3 hts gX12_valueAs_X11_settle rfl rfl rfl hv_X11_settle ⟨Nat.le_of_ble_eq_true rfl, Nat.le_of_ble_eq_true rfl⟩) (pWk_V (q := (RX11, TX11, 6)) (ci := 8) (q0 := 1) hP hE hD hV hS hFc rfl rfl [1, 2, 3, 4, 5, 6, 7, 8, 9, 10, 11] (by decide +kernel) rfl rfl) rfl rfl hl.1 rfl (lv_room (Nat.le_of_ble_eq_true rfl)) dX12_valueAs_40 ⟨Nat.le_of_ble_eq_true rfl, Nat.le_of_ble_eq_true rfl⟩) hS (fun q _ h => hFc q h) hFc (fun r_7 u_8 t H1 locs ht hvm hr_7 hB hz1 hk1 hS => ?_)
        obtain ⟨f_9, f_10, f_11⟩ := u_8
        obtain ⟨hqr_7, hsl_r_7, hfo_r_7, hstr_7⟩ := hr_7
        have hqr_7 : 0 ≤ r_7.toInt ∧ r_7.toInt < 672 := hqr_7
        have hsl_r_7 : r_7.toNatClampNeg = slN x1 x2 x3 := hsl_r_7
        have hfo_r_7 : f_11 (slN x1 x2 x3) = n := hfo_r_7
        have hsr_7 : stW (VALW l9 f1 f2 f3 f4 f5) n0 n (rgW x1 x2) g0 g1 g4 f_9 f_10 f_11 := hstr_7
        have hst : stW (VALW l9 f1 f2 f3 f4 f5) n0 n (fun _ => True) g0 g1 g4 f_9 f_10 f_11 := hst.tr hsr_7 (fun _ _ => trivial)
        have hmm : memW (VALW l9 f1 f2 f3 f4 f5) n0 n f_9 f_10 f_11 := hst.1
        have hv_r_7 : (f_9 (r_7.toNatClampNeg), f_10 (r_7.toNatClampNeg)) = (VALW l9 f1 f2 f3 f4 f5) x1 x2 x3 := hst.val (by omega) (by omega) (by first | (rw [ti_0]; omega) | omega) hsl_r_7 hfo_r_7
        have hb_r_7 : 0 ≤ (f_10 (r_7.toNatClampNeg)).toInt := val_nn (VAL_low hlq.1 hlq.2 31 _ _ _) hv_r_7
        obtain ⟨hP1, hD1⟩ := hB
        rw [ht] at hP1
        obtain ⟨hP, hD⟩ := va_repl [(h0, .inr (9, fs0)), (wo, .inr (8, [.ref la, .ref cl, .ref p0, .ref p1, .ref p4, .int n])), (la, .inr (5, [.int (l9 0), .int (l9 1), .int (l9 2), .int (l9 3), .int (l9 4), .int (l9 5), .int (l9 6)])), (cl, .inr (1, [.int n0, .ref c1, .ref c2, .ref c3, .ref c4, .ref c5, .ref c6, .ref c7])), (c1, .inl (T 0, 24, .inl f1)), (c2, .inl (T 0, 24, .inl f2)), (c3, .inl (T 0, 24, .inl f3)), (c4, .inl (T 0, 24, .inl f4)), (c5, .inl (T 0, 24, .inl f5)), (p0, .inl (T 1, 676, .inr (.inl f_9))), (p1, .inl (T 1, 676, .inr (.inl f_10))), (p4, .inl (T 0, 672, .inl f_11))] hP hD [1, 2, 3, 4, 5, 6, 7, 8, 9, 10, 11] [1, 2, 3, 4, 5, 6, 7, 8, 9, 10, 11] rfl (by decide +kernel) rfl rfl rfl hk1 hP1
        clear hP1 hD1 hFc
        generalize H1 = H at hP hS ⊢
        refine lv_istore (lv' := [(5, .int r_7), (0, .ref h0), (1, .int x1), (2, .int x2), (3, .int x3), (4, .int x4)]) hx hb dX12_valueAs_43 hl (by decide +kernel) rfl (fun ls hl => ?_)
        refine lv_aload_n hx hb dX12_valueAs_45 rfl (lv_at hl 1 rfl) ?_
        refine va_get (D := D) (ci := 9) (v := .ref wo) (C := RX12) (T := TX12) (N := 11) hx hb hts in_X12_valueAs_X12 hown hE.1 hP 0 rfl rfl 6 (by decide +kernel) (hts (.fieldLink RX12 43 "ClauseBook" "worth" "LClauseBook$Worth;") (List.mem_of_getElem? (i := 3) rfl)) (fun _ h9 => h9) e0_6 dX12_valueAs_46 ?_
        refine lv_iload hx hb dX12_valueAs_49 (lv_at hl 0 rfl) ?_
        refine vp_callSi (W.runV (As := [.int r_7]) (rest := []) ⟨hx, hb, hml, hown, hts⟩ (c_X11_isMuch l D T wo [.ref la, .ref cl, .ref p0, .ref p1, .ref p4, .int n] p1 f_10 r_7 rfl (by first | decide | omega)) (cwV 1 hts gX12_valueAs_X11_isMuch rfl rfl rfl hv_X11_isMuch ⟨Nat.le_of_ble_eq_true rfl, Nat.le_of_ble_eq_true rfl⟩) (pR_V (q := (RX11, TX11, 6)) (ci := 8) (q0 := 1) hP hE rfl rfl [1, 10] rfl) rfl rfl hl.1 rfl (lv_room (Nat.le_of_ble_eq_true rfl)) dX12_valueAs_51 ⟨Nat.le_of_ble_eq_true rfl, Nat.le_of_ble_eq_true rfl⟩) (fun r_12 hr_12 => ?_)
        rcases bool_post hr_12 with ⟨c_13, rfl⟩ | ⟨c_13, rfl⟩
        · refine lv_if_eq (tgt := 61) hx hb dX12_valueAs_54 (by decide +kernel) (fun c9 => absurd c9 (by decide +kernel)) (fun _ => ?_)
          refine lv_ldc2 (v := (-4611686018427387909)) hx hb hown (hts (.constantLong RX12 200 (-4611686018427387909)) (List.mem_of_getElem? (i := 4) rfl)) dX12_valueAs_57 ?_
          refine W.endD hd0 ?_
          exact W.lret hx hb hr (fun t ht hW => ⟨⟨_, (f_9, f_10, f_11), rfl, hst, by rw [ht]; exact hP.sub [0, 1, 2, 3, 4, 5, 6, 7, 8, 9, 10, 11] rfl, hD.sub [0, 1, 2, 3, 4, 5, 6, 7, 8, 9, 10, 11] (by decide +kernel) rfl⟩, hS.F ht⟩) hS.2.2 dX12_valueAs_60
        · refine lv_if_eq (tgt := 61) hx hb dX12_valueAs_54 (by decide +kernel) (fun _ => ?_) (fun c9 => absurd c9 (by decide +kernel))
          refine lv_aload_n hx hb dX12_valueAs_61 rfl (lv_at hl 1 rfl) ?_
          refine va_get (D := D) (ci := 9) (v := .ref wo) (C := RX12) (T := TX12) (N := 11) hx hb hts in_X12_valueAs_X12 hown hE.1 hP 0 rfl rfl 6 (by decide +kernel) (hts (.fieldLink RX12 43 "ClauseBook" "worth" "LClauseBook$Worth;") (List.mem_of_getElem? (i := 3) rfl)) (fun _ h9 => h9) e0_6 dX12_valueAs_62 ?_
          refine va_get (D := D) (ci := 8) (v := .ref p0) (C := RX11) (T := TX11) (N := 6) hx hb hts in_X12_valueAs_X11 hown hE.1 hP 1 rfl rfl 2 (by decide +kernel) (hts (.fieldLink RX12 202 "ClauseBook$Worth" "above" "[J") (List.mem_of_getElem? (i := 5) rfl)) (fun _ h9 => h9) rfl dX12_valueAs_65 ?_
          refine lv_iload hx hb dX12_valueAs_68 (lv_at hl 0 rfl) ?_
          refine va_lald hx hb hE.1 hP 9 1 rfl rfl (by rw [vp_in_iff]; first | omega | (subst_vars; omega)) dX12_valueAs_70 ?_
          refine lv_topl (fun z_14 ez_14 => ?_)
          refine lv_l2d hx hb dX12_valueAs_71 ?_
          refine lv_aload_n hx hb dX12_valueAs_72 rfl (lv_at hl 1 rfl) ?_
          refine va_get (D := D) (ci := 9) (v := .ref wo) (C := RX12) (T := TX12) (N := 11) hx hb hts in_X12_valueAs_X12 hown hE.1 hP 0 rfl rfl 6 (by decide +kernel) (hts (.fieldLink RX12 43 "ClauseBook" "worth" "LClauseBook$Worth;") (List.mem_of_getElem? (i := 3) rfl)) (fun _ h9 => h9) e0_6 dX12_valueAs_73 ?_
          refine va_get (D := D) (ci := 8) (v := .ref p1) (C := RX11) (T := TX11) (N := 6) hx hb hts in_X12_valueAs_X11 hown hE.1 hP 1 rfl rfl 3 (by decide +kernel) (hts (.fieldLink RX12 206 "ClauseBook$Worth" "below" "[J") (List.mem_of_getElem? (i := 6) rfl)) (fun _ h9 => h9) rfl dX12_valueAs_76 ?_
          refine lv_iload hx hb dX12_valueAs_79 (lv_at hl 0 rfl) ?_
          refine va_lald hx hb hE.1 hP 10 1 rfl rfl (by rw [vp_in_iff]; first | omega | (subst_vars; omega)) dX12_valueAs_81 ?_
          refine lv_topl (fun z_15 ez_15 => ?_)
          refine lv_l2d hx hb dX12_valueAs_82 ?_
          refine lv_ddiv_any hd0 lw_bits hx hb dX12_valueAs_83 (fun r_16 d_17 _ hd_17 => ?_)
          have hts := dr_words hts0 d_17
          have hE : ekK D T (s.setDrawn d_17) := ekK.same (u := s) rfl hE0
          have hown : (s.setDrawn d_17).vm.findClass RX12 = some m.cls := hown0
          have hV : evK ad sa av ta A (s.setDrawn d_17) (s.setDrawn d_17).heap := evK.same (u := s) rfl hV0
          refine lv_dstore (lv' := [(6, .double r_16), (5, .int r_7), (0, .ref h0), (1, .int x1), (2, .int x2), (3, .int x3), (4, .int x4)]) hx hb dX12_valueAs_84 hl (by decide +kernel) rfl (fun ls hl => ?_)
          refine lv_iload hx hb dX12_valueAs_86 (lv_at hl 6 rfl) ?_
          by_cases k_18 : x4 = 0
          · subst k_18
            refine lv_tableIn (off := 36) (tgt := 124) hx hb dX12_valueAs_88 (by decide +kernel) (by decide +kernel) (by decide +kernel) (by decide +kernel) ?_
            refine lv_dload hx hb dX12_valueAs_124 (lv_at hl 0 rfl) ?_
            refine lv_ldc2d (v := 4636737291354636288) hx hb hown (hts (.constantDouble RX12 209 (4636737291354636288)) (List.mem_of_getElem? (i := 7) rfl)) dX12_valueAs_126 ?_
            refine lv_dmul_any hd_17 lw_bits hx hb dX12_valueAs_129 (fun r_19 d_20 _ hd_20 => ?_)
            have hts := dr_words hts0 d_20
            have hE : ekK D T (s.setDrawn d_20) := ekK.same (u := s) rfl hE0
            have hown : (s.setDrawn d_20).vm.findClass RX12 = some m.cls := hown0
            have hV : evK ad sa av ta A (s.setDrawn d_20) (s.setDrawn d_20).heap := evK.same (u := s) rfl hV0
            refine lv_d2l hx hb dX12_valueAs_130 ?_
            refine lv_topl (fun z_21 ez_21 => ?_)
            refine W.endD hd_20 ?_
            exact W.lret hx hb hr (fun t ht hW => ⟨⟨_, (f_9, f_10, f_11), rfl, hst, by rw [ht]; exact hP.sub [0, 1, 2, 3, 4, 5, 6, 7, 8, 9, 10, 11] rfl, hD.sub [0, 1, 2, 3, 4, 5, 6, 7, 8, 9, 10, 11] (by decide +kernel) rfl⟩, hS.F ht⟩) hS.2.2 dX12_valueAs_131
          by_cases k_22 : x4 = 1
          · subst k_22
            refine lv_tableIn (off := 44) (tgt := 132) hx hb dX12_valueAs_88 (by decide +kernel) (by decide +kernel) (by decide +kernel) (by decide +kernel) ?_
            refine lv_dload hx hb dX12_valueAs_132 (lv_at hl 0 rfl) ?_
            refine lv_d2f_any hd_17 lw_bits hx hb dX12_valueAs_134 (fun r_23 d_24 _ hd_24 => ?_)
            have hts := dr_words hts0 d_24
            have hE : ekK D T (s.setDrawn d_24) := ekK.same (u := s) rfl hE0
            have hown : (s.setDrawn d_24).vm.findClass RX12 = some m.cls := hown0
            have hV : evK ad sa av ta A (s.setDrawn d_24) (s.setDrawn d_24).heap := evK.same (u := s) rfl hV0
            have hFc := va_free (wc := []) hD hS hA [] rfl
            refine va_calliD hd_24 (va_runS_D (As := [.float r_23]) (rest := []) ⟨hx, hb, hml, hown, hts⟩ (c_X5_floatBits l D T _ r_23) (va_cwS 1 hts gX12_valueAs_X5_floatBits rfl rfl rfl hs_X5_floatBits ⟨Nat.le_of_ble_eq_true rfl, Nat.le_of_ble_eq_true rfl⟩) (pW_S hP hE hD [] (by decide +kernel) rfl rfl) rfl rfl hl.1 rfl (lv_room (Nat.le_of_ble_eq_true rfl)) dX12_valueAs_135 ⟨Nat.le_of_ble_eq_true rfl, Nat.le_of_ble_eq_true rfl⟩) hS (fun q _ h => hFc q h) hFc (fun r_25 u_26 t H1 locs ht hvm hr_25 hB hz1 hk1 hS d_27 hd_27 => ?_)
            have hts := dr_words hts0 d_27
            have hE : ekK D T (s.setDrawn d_27) := ekK.same (u := s) rfl hE0
            have hown : (s.setDrawn d_27).vm.findClass RX12 = some m.cls := hown0
            have hV : evK ad sa av ta A (s.setDrawn d_27) (s.setDrawn d_27).heap := evK.same (u := s) rfl hV0
            obtain ⟨hP1, hD1⟩ := hB
            rw [ht] at hP1
            obtain ⟨hP, hD⟩ := va_repl [(h0, .inr (9, fs0)), (wo, .inr (8, [.ref la, .ref cl, .ref p0, .ref p1, .ref p4, .int n])), (la, .inr (5, [.int (l9 0), .int (l9 1), .int (l9 2), .int (l9 3), .int (l9 4), .int (l9 5), .int (l9 6)])), (cl, .inr (1, [.int n0, .ref c1, .ref c2, .ref c3, .ref c4, .ref c5, .ref c6, .ref c7])), (c1, .inl (T 0, 24, .inl f1)), (c2, .inl (T 0, 24, .inl f2)), (c3, .inl (T 0, 24, .inl f3)), (c4, .inl (T 0, 24, .inl f4)), (c5, .inl (T 0, 24, .inl f5)), (p0, .inl (T 1, 676, .inr (.inl f_9))), (p1, .inl (T 1, 676, .inr (.inl f_10))), (p4, .inl (T 0, 672, .inl f_11))] hP hD [] [] rfl (by decide +kernel) rfl rfl rfl hk1 hP1
            clear hP1 hD1 hFc
            generalize H1 = H at hP hS ⊢
            refine lv_i2l hx hb dX12_valueAs_138 rfl ?_
            refine W.endD hd_27 ?_
            exact W.lret hx hb hr (fun t ht hW => ⟨⟨_, (f_9, f_10, f_11), rfl, hst, by rw [ht]; exact hP.sub [0, 1, 2, 3, 4, 5, 6, 7, 8, 9, 10, 11] rfl, hD.sub [0, 1, 2, 3, 4, 5, 6, 7, 8, 9, 10, 11] (by decide +kernel) rfl⟩, hS.F ht⟩) hS.2.2 dX12_valueAs_139
          by_cases k_28 : x4 = 2
          · subst k_28
            refine lv_tableIn (off := 52) (tgt := 140) hx hb dX12_valueAs_88 (by decide +kernel) (by decide +kernel) (by decide +kernel) (by decide +kernel) ?_
            refine lv_dload hx hb dX12_valueAs_140 (lv_at hl 0 rfl) ?_
            have hFc := va_free (wc := []) hD hS hA [] rfl
            refine va_calllD hd_17 (va_runS_D (As := [.double r_16]) (rest := []) ⟨hx, hb, hml, hown, hts⟩ (c_X5_doubleBits l D T _ r_16) (va_cwS 1 hts gX12_valueAs_X5_doubleBits rfl rfl rfl hs_X5_doubleBits ⟨Nat.le_of_ble_eq_true rfl, Nat.le_of_ble_eq_true rfl⟩) (pW_S hP hE hD [] (by decide +kernel) rfl rfl) rfl rfl hl.1 rfl (lv_room (Nat.le_of_ble_eq_true rfl)) dX12_valueAs_142 ⟨Nat.le_of_ble_eq_true rfl, Nat.le_of_ble_eq_true rfl⟩) hS (fun q _ h => hFc q h) hFc (fun r_29 u_30 t H1 locs ht hvm hr_29 hB hz1 hk1 hS d_31 hd_31 => ?_)
            have hts := dr_words hts0 d_31
            have hE : ekK D T (s.setDrawn d_31) := ekK.same (u := s) rfl hE0
            have hown : (s.setDrawn d_31).vm.findClass RX12 = some m.cls := hown0
            have hV : evK ad sa av ta A (s.setDrawn d_31) (s.setDrawn d_31).heap := evK.same (u := s) rfl hV0
            obtain ⟨hP1, hD1⟩ := hB
            rw [ht] at hP1
            obtain ⟨hP, hD⟩ := va_repl [(h0, .inr (9, fs0)), (wo, .inr (8, [.ref la, .ref cl, .ref p0, .ref p1, .ref p4, .int n])), (la, .inr (5, [.int (l9 0), .int (l9 1), .int (l9 2), .int (l9 3), .int (l9 4), .int (l9 5), .int (l9 6)])), (cl, .inr (1, [.int n0, .ref c1, .ref c2, .ref c3, .ref c4, .ref c5, .ref c6, .ref c7])), (c1, .inl (T 0, 24, .inl f1)), (c2, .inl (T 0, 24, .inl f2)), (c3, .inl (T 0, 24, .inl f3)), (c4, .inl (T 0, 24, .inl f4)), (c5, .inl (T 0, 24, .inl f5)), (p0, .inl (T 1, 676, .inr (.inl f_9))), (p1, .inl (T 1, 676, .inr (.inl f_10))), (p4, .inl (T 0, 672, .inl f_11))] hP hD [] [] rfl (by decide +kernel) rfl rfl rfl hk1 hP1
            clear hP1 hD1 hFc
            generalize H1 = H at hP hS ⊢
            refine W.endD hd_31 ?_
            exact W.lret hx hb hr (fun t ht hW => ⟨⟨_, (f_9, f_10, f_11), rfl, hst, by rw [ht]; exact hP.sub [0, 1, 2, 3, 4, 5, 6, 7, 8, 9, 10, 11] rfl, hD.sub [0, 1, 2, 3, 4, 5, 6, 7, 8, 9, 10, 11] (by decide +kernel) rfl⟩, hS.F ht⟩) hS.2.2 dX12_valueAs_145
          by_cases k_32 : x4 = 3
          · subst k_32
            refine lv_tableIn (off := 58) (tgt := 146) hx hb dX12_valueAs_88 (by decide +kernel) (by decide +kernel) (by decide +kernel) (by decide +kernel) ?_
            refine lv_dload hx hb dX12_valueAs_146 (lv_at hl 0 rfl) ?_
            refine lv_dconst1 hx hb dX12_valueAs_148 ?_
            have hFc := va_free (wc := []) hD hS hA [] rfl
            refine va_calldD hd_17 (va_runS_D (As := [.double r_16, .double FP.dconst1]) (rest := []) ⟨hx, hb, hml, hown, hts⟩ (c_X5_remainder l D T _ r_16 FP.dconst1) (va_cwS 2 hts gX12_valueAs_X5_remainder rfl rfl rfl hs_X5_remainder ⟨Nat.le_of_ble_eq_true rfl, Nat.le_of_ble_eq_true rfl⟩) (pW_S hP hE hD [] (by decide +kernel) rfl rfl) rfl rfl hl.1 rfl (lv_room (Nat.le_of_ble_eq_true rfl)) dX12_valueAs_149 ⟨Nat.le_of_ble_eq_true rfl, Nat.le_of_ble_eq_true rfl⟩) hS (fun q _ h => hFc q h) hFc (fun r_33 u_34 t H1 locs ht hvm hr_33 hB hz1 hk1 hS d_35 hd_35 => ?_)
            have hts := dr_words hts0 d_35
            have hE : ekK D T (s.setDrawn d_35) := ekK.same (u := s) rfl hE0
            have hown : (s.setDrawn d_35).vm.findClass RX12 = some m.cls := hown0
            have hV : evK ad sa av ta A (s.setDrawn d_35) (s.setDrawn d_35).heap := evK.same (u := s) rfl hV0
            obtain ⟨hP1, hD1⟩ := hB
            rw [ht] at hP1
            obtain ⟨hP, hD⟩ := va_repl [(h0, .inr (9, fs0)), (wo, .inr (8, [.ref la, .ref cl, .ref p0, .ref p1, .ref p4, .int n])), (la, .inr (5, [.int (l9 0), .int (l9 1), .int (l9 2), .int (l9 3), .int (l9 4), .int (l9 5), .int (l9 6)])), (cl, .inr (1, [.int n0, .ref c1, .ref c2, .ref c3, .ref c4, .ref c5, .ref c6, .ref c7])), (c1, .inl (T 0, 24, .inl f1)), (c2, .inl (T 0, 24, .inl f2)), (c3, .inl (T 0, 24, .inl f3)), (c4, .inl (T 0, 24, .inl f4)), (c5, .inl (T 0, 24, .inl f5)), (p0, .inl (T 1, 676, .inr (.inl f_9))), (p1, .inl (T 1, 676, .inr (.inl f_10))), (p4, .inl (T 0, 672, .inl f_11))] hP hD [] [] rfl (by decide +kernel) rfl rfl rfl hk1 hP1
            clear hP1 hD1 hFc
            generalize H1 = H at hP hS ⊢
            refine lv_ldc2d (v := 4652007308841189376) hx hb hown (hts (.constantDouble RX12 225 (4652007308841189376)) (List.mem_of_getElem? (i := 8) rfl)) dX12_valueAs_152 ?_
            refine lv_dmul_any hd_35 lw_bits hx hb dX12_valueAs_155 (fun r_36 d_37 _ hd_37 => ?_)
            have hts := dr_words hts0 d_37
            have hE : ekK D T (s.setDrawn d_37) := ekK.same (u := s) rfl hE0
            have hown : (s.setDrawn d_37).vm.findClass RX12 = some m.cls := hown0
            have hV : evK ad sa av ta A (s.setDrawn d_37) (s.setDrawn d_37).heap := evK.same (u := s) rfl hV0
            refine lv_d2i hx hb dX12_valueAs_156 ?_
            refine lv_topi (fun z_38 ez_38 => ?_)
            refine lv_i2l hx hb dX12_valueAs_157 rfl ?_
            refine W.endD hd_37 ?_
            exact W.lret hx hb hr (fun t ht hW => ⟨⟨_, (f_9, f_10, f_11), rfl, hst, by rw [ht]; exact hP.sub [0, 1, 2, 3, 4, 5, 6, 7, 8, 9, 10, 11] rfl, hD.sub [0, 1, 2, 3, 4, 5, 6, 7, 8, 9, 10, 11] (by decide +kernel) rfl⟩, hS.F ht⟩) hS.2.2 dX12_valueAs_158
          by_cases k_39 : x4 = 4
          · subst k_39
            refine lv_tableIn (off := 71) (tgt := 159) hx hb dX12_valueAs_88 (by decide +kernel) (by decide +kernel) (by decide +kernel) (by decide +kernel) ?_
            refine lv_dload hx hb dX12_valueAs_159 (lv_at hl 0 rfl) ?_
            refine lv_ldc2d (v := 4600427019358961664) hx hb hown (hts (.constantDouble RX12 227 (4600427019358961664)) (List.mem_of_getElem? (i := 9) rfl)) dX12_valueAs_161 ?_
            have hFc := va_free (wc := []) hD hS hA [] rfl
            refine va_calldD hd_17 (va_runS_D (As := [.double r_16, .double 4600427019358961664]) (rest := []) ⟨hx, hb, hml, hown, hts⟩ (c_X5_remainder l D T _ r_16 4600427019358961664) (va_cwS 2 hts gX12_valueAs_X5_remainder rfl rfl rfl hs_X5_remainder ⟨Nat.le_of_ble_eq_true rfl, Nat.le_of_ble_eq_true rfl⟩) (pW_S hP hE hD [] (by decide +kernel) rfl rfl) rfl rfl hl.1 rfl (lv_room (Nat.le_of_ble_eq_true rfl)) dX12_valueAs_164 ⟨Nat.le_of_ble_eq_true rfl, Nat.le_of_ble_eq_true rfl⟩) hS (fun q _ h => hFc q h) hFc (fun r_40 u_41 t H1 locs ht hvm hr_40 hB hz1 hk1 hS d_42 hd_42 => ?_)
            have hts := dr_words hts0 d_42
            have hE : ekK D T (s.setDrawn d_42) := ekK.same (u := s) rfl hE0
            have hown : (s.setDrawn d_42).vm.findClass RX12 = some m.cls := hown0
            have hV : evK ad sa av ta A (s.setDrawn d_42) (s.setDrawn d_42).heap := evK.same (u := s) rfl hV0
            obtain ⟨hP1, hD1⟩ := hB
            rw [ht] at hP1
            obtain ⟨hP, hD⟩ := va_repl [(h0, .inr (9, fs0)), (wo, .inr (8, [.ref la, .ref cl, .ref p0, .ref p1, .ref p4, .int n])), (la, .inr (5, [.int (l9 0), .int (l9 1), .int (l9 2), .int (l9 3), .int (l9 4), .int (l9 5), .int (l9 6)])), (cl, .inr (1, [.int n0, .ref c1, .ref c2, .ref c3, .ref c4, .ref c5, .ref c6, .ref c7])), (c1, .inl (T 0, 24, .inl f1)), (c2, .inl (T 0, 24, .inl f2)), (c3, .inl (T 0, 24, .inl f3)), (c4, .inl (T 0, 24, .inl f4)), (c5, .inl (T 0, 24, .inl f5)), (p0, .inl (T 1, 676, .inr (.inl f_9))), (p1, .inl (T 1, 676, .inr (.inl f_10))), (p4, .inl (T 0, 672, .inl f_11))] hP hD [] [] rfl (by decide +kernel) rfl rfl rfl hk1 hP1
            clear hP1 hD1 hFc
            generalize H1 = H at hP hS ⊢
            have hFc := va_free (wc := []) hD hS hA [] rfl
            refine va_calllD hd_42 (va_runS_D (As := [.double r_40]) (rest := []) ⟨hx, hb, hml, hown, hts⟩ (c_X5_doubleBits l D T _ r_40) (va_cwS 1 hts gX12_valueAs_X5_doubleBits rfl rfl rfl hs_X5_doubleBits ⟨Nat.le_of_ble_eq_true rfl, Nat.le_of_ble_eq_true rfl⟩) (pW_S hP hE hD [] (by decide +kernel) rfl rfl) rfl rfl hl.1 rfl (lv_room (Nat.le_of_ble_eq_true rfl)) dX12_valueAs_167 ⟨Nat.le_of_ble_eq_true rfl, Nat.le_of_ble_eq_true rfl⟩) hS (fun q _ h => hFc q h) hFc (fun r_43 u_44 t H1 locs ht hvm hr_43 hB hz1 hk1 hS d_45 hd_45 => ?_)
            have hts := dr_words hts0 d_45
            have hE : ekK D T (s.setDrawn d_45) := ekK.same (u := s) rfl hE0
            have hown : (s.setDrawn d_45).vm.findClass RX12 = some m.cls := hown0
            have hV : evK ad sa av ta A (s.setDrawn d_45) (s.setDrawn d_45).heap := evK.same (u := s) rfl hV0
            obtain ⟨hP1, hD1⟩ := hB
            rw [ht] at hP1
            obtain ⟨hP, hD⟩ := va_repl [(h0, .inr (9, fs0)), (wo, .inr (8, [.ref la, .ref cl, .ref p0, .ref p1, .ref p4, .int n])), (la, .inr (5, [.int (l9 0), .int (l9 1), .int (l9 2), .int (l9 3), .int (l9 4), .int (l9 5), .int (l9 6)])), (cl, .inr (1, [.int n0, .ref c1, .ref c2, .ref c3, .ref c4, .ref c5, .ref c6, .ref c7])), (c1, .inl (T 0, 24, .inl f1)), (c2, .inl (T 0, 24, .inl f2)), (c3, .inl (T 0, 24, .inl f3)), (c4, .inl (T 0, 24, .inl f4)), (c5, .inl (T 0, 24, .inl f5)), (p0, .inl (T 1, 676, .inr (.inl f_9))), (p1, .inl (T 1, 676, .inr (.inl f_10))), (p4, .inl (T 0, 672, .inl f_11))] hP hD [] [] rfl (by decide +kernel) rfl rfl rfl hk1 hP1
            clear hP1 hD1 hFc
            generalize H1 = H at hP hS ⊢
            refine W.endD hd_45 ?_
            exact W.lret hx hb hr (fun t ht hW => ⟨⟨_, (f_9, f_10, f_11), rfl, hst, by rw [ht]; exact hP.sub [0, 1, 2, 3, 4, 5, 6, 7, 8, 9, 10, 11] rfl, hD.sub [0, 1, 2, 3, 4, 5, 6, 7, 8, 9, 10, 11] (by decide +kernel) rfl⟩, hS.F ht⟩) hS.2.2 dX12_valueAs_170
          rw [fa_eq] at k_18 k_22 k_28 k_32 k_39
          try simp only [ti_0, ti_1, ti_2, ti_3, ti_4] at k_18 k_22 k_28 k_32 k_39
          refine lv_tableOut (tgt := 171) hx hb dX12_valueAs_88 (by omega) (by decide +kernel) ?_
          refine lv_dload hx hb dX12_valueAs_171 (lv_at hl 0 rfl) ?_
          refine lv_d2f_any hd_17 lw_bits hx hb dX12_valueAs_173 (fun r_46 d_47 _ hd_47 => ?_)
          have hts := dr_words hts0 d_47
          have hE : ekK D T (s.setDrawn d_47) := ekK.same (u := s) rfl hE0
          have hown : (s.setDrawn d_47).vm.findClass RX12 = some m.cls := hown0
          have hV : evK ad sa av ta A (s.setDrawn d_47) (s.setDrawn d_47).heap := evK.same (u := s) rfl hV0
          refine lv_f2d_any hd_47 lw_bits hx hb dX12_valueAs_174 (fun r_48 d_49 _ hd_49 => ?_)
          have hts := dr_words hts0 d_49
          have hE : ekK D T (s.setDrawn d_49) := ekK.same (u := s) rfl hE0
          have hown : (s.setDrawn d_49).vm.findClass RX12 = some m.cls := hown0
          have hV : evK ad sa av ta A (s.setDrawn d_49) (s.setDrawn d_49).heap := evK.same (u := s) rfl hV0
          refine lv_ldc2d (v := 4604930618986332160) hx hb hown (hts (.constantDouble RX12 229 (4604930618986332160)) (List.mem_of_getElem? (i := 10) rfl)) dX12_valueAs_175 ?_
          have hFc := va_free (wc := []) hD hS hA [] rfl
          refine va_calldD hd_49 (va_runS_D (As := [.double r_48, .double 4604930618986332160]) (rest := []) ⟨hx, hb, hml, hown, hts⟩ (c_X5_remainder l D T _ r_48 4604930618986332160) (va_cwS 2 hts gX12_valueAs_X5_remainder rfl rfl rfl hs_X5_remainder ⟨Nat.le_of_ble_eq_true rfl, Nat.le_of_ble_eq_true rfl⟩) (pW_S hP hE hD [] (by decide +kernel) rfl rfl) rfl rfl hl.1 rfl (lv_room (Nat.le_of_ble_eq_true rfl)) dX12_valueAs_178 ⟨Nat.le_of_ble_eq_true rfl, Nat.le_of_ble_eq_true rfl⟩) hS (fun q _ h => hFc q h) hFc (fun r_50 u_51 t H1 locs ht hvm hr_50 hB hz1 hk1 hS d_52 hd_52 => ?_)
          have hts := dr_words hts0 d_52
          have hE : ekK D T (s.setDrawn d_52) := ekK.same (u := s) rfl hE0
          have hown : (s.setDrawn d_52).vm.findClass RX12 = some m.cls := hown0
          have hV : evK ad sa av ta A (s.setDrawn d_52) (s.setDrawn d_52).heap := evK.same (u := s) rfl hV0
          obtain ⟨hP1, hD1⟩ := hB
          rw [ht] at hP1
          obtain ⟨hP, hD⟩ := va_repl [(h0, .inr (9, fs0)), (wo, .inr (8, [.ref la, .ref cl, .ref p0, .ref p1, .ref p4, .int n])), (la, .inr (5, [.int (l9 0), .int (l9 1), .int (l9 2), .int (l9 3), .int (l9 4), .int (l9 5), .int (l9 6)])), (cl, .inr (1, [.int n0, .ref c1, .ref c2, .ref c3, .ref c4, .ref c5, .ref c6, .ref c7])), (c1, .inl (T 0, 24, .inl f1)), (c2, .inl (T 0, 24, .inl f2)), (c3, .inl (T 0, 24, .inl f3)), (c4, .inl (T 0, 24, .inl f4)), (c5, .inl (T 0, 24, .inl f5)), (p0, .inl (T 1, 676, .inr (.inl f_9))), (p1, .inl (T 1, 676, .inr (.inl f_10))), (p4, .inl (T 0, 672, .inl f_11))] hP hD [] [] rfl (by decide +kernel) rfl rfl rfl hk1 hP1
          clear hP1 hD1 hFc
          generalize H1 = H at hP hS ⊢
          refine lv_d2f_any hd_52 lw_bits hx hb dX12_valueAs_181 (fun r_53 d_54 _ hd_54 => ?_)
          have hts := dr_words hts0 d_54
          have hE : ekK D T (s.setDrawn d_54) := ekK.same (u := s) rfl hE0
          have hown : (s.setDrawn d_54).vm.findClass RX12 = some m.cls := hown0
          have hV : evK ad sa av ta A (s.setDrawn d_54) (s.setDrawn d_54).heap := evK.same (u := s) rfl hV0
          have hFc := va_free (wc := []) hD hS hA [] rfl
          refine va_calliD hd_54 (va_runS_D (As := [.float r_53]) (rest := []) ⟨hx, hb, hml, hown, hts⟩ (c_X5_floatBits l D T _ r_53) (va_cwS 1 hts gX12_valueAs_X5_floatBits rfl rfl rfl hs_X5_floatBits ⟨Nat.le_of_ble_eq_true rfl, Nat.le_of_ble_eq_true rfl⟩) (pW_S hP hE hD [] (by decide +kernel) rfl rfl) rfl rfl hl.1 rfl (lv_room (Nat.le_of_ble_eq_true rfl)) dX12_valueAs_182 ⟨Nat.le_of_ble_eq_true rfl, Nat.le_of_ble_eq_true rfl⟩) hS (fun q _ h => hFc q h) hFc (fun r_55 u_56 t H1 locs ht hvm hr_55 hB hz1 hk1 hS d_57 hd_57 => ?_)
          have hts := dr_words hts0 d_57
          have hE : ekK D T (s.setDrawn d_57) := ekK.same (u := s) rfl hE0
          have hown : (s.setDrawn d_57).vm.findClass RX12 = some m.cls := hown0
          have hV : evK ad sa av ta A (s.setDrawn d_57) (s.setDrawn d_57).heap := evK.same (u := s) rfl hV0
          obtain ⟨hP1, hD1⟩ := hB
          rw [ht] at hP1
          obtain ⟨hP, hD⟩ := va_repl [(h0, .inr (9, fs0)), (wo, .inr (8, [.ref la, .ref cl, .ref p0, .ref p1, .ref p4, .int n])), (la, .inr (5, [.int (l9 0), .int (l9 1), .int (l9 2), .int (l9 3), .int (l9 4), .int (l9 5), .int (l9 6)])), (cl, .inr (1, [.int n0, .ref c1, .ref c2, .ref c3, .ref c4, .ref c5, .ref c6, .ref c7])), (c1, .inl (T 0, 24, .inl f1)), (c2, .inl (T 0, 24, .inl f2)), (c3, .inl (T 0, 24, .inl f3)), (c4, .inl (T 0, 24, .inl f4)), (c5, .inl (T 0, 24, .inl f5)), (p0, .inl (T 1, 676, .inr (.inl f_9))), (p1, .inl (T 1, 676, .inr (.inl f_10))), (p4, .inl (T 0, 672, .inl f_11))] hP hD [] [] rfl (by decide +kernel) rfl rfl rfl hk1 hP1
          clear hP1 hD1 hFc
          generalize H1 = H at hP hS ⊢
          refine lv_i2l hx hb dX12_valueAs_185 rfl ?_
          refine W.endD hd_57 ?_
          exact W.lret hx hb hr (fun t ht hW => ⟨⟨_, (f_9, f_10, f_11), rfl, hst, by rw [ht]; exact hP.sub [0, 1, 2, 3, 4, 5, 6, 7, 8, 9, 10, 11] rfl, hD.sub [0, 1, 2, 3, 4, 5, 6, 7, 8, 9, 10, 11] (by decide +kernel) rfl⟩, hS.F ht⟩) hS.2.2 dX12_valueAs_186
      · refine lv_if_ne (tgt := 33) hx hb dX12_valueAs_26 (by decide +kernel) (fun c9 => absurd c9 (by decide +kernel)) (fun _ => ?_)
        refine lv_ldc2 (v := (-4611686018427387906)) hx hb hown (hts (.constantLong RX12 183 (-4611686018427387906)) (List.mem_of_getElem? (i := 2) rfl)) dX12_valueAs_29 ?_
        refine W.endD hd0 ?_
        exact W.lret hx hb hr (fun t ht hW => ⟨⟨_, (g0, g1, g4), rfl, hst, by rw [ht]; exact hP.sub [0, 1, 2, 3, 4, 5, 6, 7, 8, 9, 10, 11] rfl, hD.sub [0, 1, 2, 3, 4, 5, 6, 7, 8, 9, 10, 11] (by decide +kernel) rfl⟩, hS.F ht⟩) hS.2.2 dX12_valueAs_32
    · refine lv_if_eq (tgt := 29) hx hb dX12_valueAs_16 (by decide +kernel) (fun _ => ?_) (fun c9 => absurd c9 (by decide +kernel))
      refine lv_ldc2 (v := (-4611686018427387906)) hx hb hown (hts (.constantLong RX12 183 (-4611686018427387906)) (List.mem_of_getElem? (i := 2) rfl)) dX12_valueAs_29 ?_
      refine W.endD hd0 ?_
      exact W.lret hx hb hr (fun t ht hW => ⟨⟨_, (g0, g1, g4), rfl, hst, by rw [ht]; exact hP.sub [0, 1, 2, 3, 4, 5, 6, 7, 8, 9, 10, 11] rfl, hD.sub [0, 1, 2, 3, 4, 5, 6, 7, 8, 9, 10, 11] (by decide +kernel) rfl⟩, hS.F ht⟩) hS.2.2 dX12_valueAs_32
  · refine lv_if_eq (tgt := 29) hx hb dX12_valueAs_8 (by decide +kernel) (fun _ => ?_) (fun c9 => absurd c9 (by decide +kernel))
    refine lv_ldc2 (v := (-4611686018427387906)) hx hb hown (hts (.constantLong RX12 183 (-4611686018427387906)) (List.mem_of_getElem? (i := 2) rfl)) dX12_valueAs_29 ?_
    refine W.endD hd0 ?_
    exact W.lret hx hb hr (fun t ht hW => ⟨⟨_, (g0, g1, g4), rfl, hst, by rw [ht]; exact hP.sub [0, 1, 2, 3, 4, 5, 6, 7, 8, 9, 10, 11] rfl, hD.sub [0, 1, 2, 3, 4, 5, 6, 7, 8, 9, 10, 11] (by decide +kernel) rfl⟩, hS.F ht⟩) hS.2.2 dX12_valueAs_32
end
section
/-! the reference, on any state: numbers -/
/-- 0 or 1 -/
def isB (x : Int32) : Prop := x = 0 ∨ x = 1
theorem isB.nar {x : Int32} (h : isB x) : narrow .boolean (.int x) = .int x := by
  rcases h with rfl | rfl <;> rfl
theorem isB.fits {x : Int32} (h : isB x) : fits .boolean (.int x) = true := by
  rcases h with rfl | rfl <;> rfl
theorem isB.or {x y : Int32} (h : isB x) (h2 : isB y) : isB (x ||| y) := by
  rcases h with rfl | rfl <;> rcases h2 with rfl | rfl <;> first | exact Or.inl (by decide +kernel) | exact Or.inr (by decide +kernel)
theorem isB.or0 {x y : Int32} (h : isB x) (h2 : isB y) (e : (x ||| y).toInt = 0) : x.toInt = 0 ∧ y.toInt = 0 := by
  rcases h with rfl | rfl <;> rcases h2 with rfl | rfl <;> first | exact ⟨by decide, by decide⟩ | exact absurd e (by decide +kernel)
theorem isB.n {x : Int32} (h : isB x) : isB (vp_nar .boolean x) ∧ ((vp_nar .boolean x).toInt = x.toInt) := by
  rcases h with rfl | rfl
  · exact ⟨Or.inl rfl, rfl⟩
  · exact ⟨Or.inr rfl, rfl⟩
theorem isB.in {x : Int32} (h : isB x) : 0 ≤ x.toInt ∧ x.toInt ≤ 1 := by
  rcases h with rfl | rfl <;> decide
theorem isB0 : isB 0 := Or.inl rfl
theorem isB1 : isB 1 := Or.inr rfl
theorem in13i {x : Int32} (h : 0 ≤ x.toInt ∧ x.toInt ≤ 12) : x = 0 ∨ x = 1 ∨ x = 2 ∨ x = 3 ∨ x = 4 ∨ x = 5 ∨ x = 6 ∨ x = 7 ∨ x = 8 ∨ x = 9 ∨ x = 10 ∨ x = 11 ∨ x = 12 := by
  simp only [fa_eq, ti_0, ti_1, ti_2, ti_3, ti_4, ti_5, ti_6, ti_7, ti_8, ti_9, ti_10, ti_11, ti_12]
  omega
/-- what lies ahead of day d in a clause's row of spots -/
def tri (d : Int) : Int := d * (d + 1) / 2
theorem tri_in {d : Int} (h : 0 ≤ d ∧ d ≤ 6) : 0 ≤ tri d ∧ tri d + d < 28 ∧ tri (d + 1) = tri d + d + 1 := by
  rcases (show d = 0 ∨ d = 1 ∨ d = 2 ∨ d = 3 ∨ d = 4 ∨ d = 5 ∨ d = 6 by omega) with rfl | rfl | rfl | rfl | rfl | rfl | rfl <;> decide
theorem tri_eq {x : Int32} (h : 0 ≤ x.toInt ∧ x.toInt ≤ 6) : ((x * (x + 1)) / 2).toInt = tri x.toInt := by
  rcases (show x = 0 ∨ x = 1 ∨ x = 2 ∨ x = 3 ∨ x = 4 ∨ x = 5 ∨ x = 6 by
    simp only [fa_eq, ti_0, ti_1, ti_2, ti_3, ti_4, ti_5, ti_6]
    omega) with rfl | rfl | rfl | rfl | rfl | rfl | rfl <;> decide
theorem at_eq {x y z : Int32} (hx : 0 ≤ x.toInt ∧ x.toInt < 24) (hy : 0 ≤ y.toInt ∧ y.toInt ≤ 6) (hz : 0 ≤ z.toInt ∧ z.toInt ≤ y.toInt) : (((28 * x) + ((y * (y + 1)) / 2)) + z).toInt = 28 * x.toInt + tri y.toInt + z.toInt := by
  have h1 := tri_in hy
  have h2 := tri_eq hy
  have e : (28 * x).toInt = 28 * x.toInt := by
    have e28 : (28 : Int32).toInt = 28 := by decide
    rw [fb_mulI (by rw [e28]; omega) (by rw [e28]; omega), e28]
  have e2 : ((28 * x) + ((y * (y + 1)) / 2)).toInt = 28 * x.toInt + tri y.toInt := by
    rw [fb_addI (by rw [e, h2]; omega) (by rw [e, h2]; omega), e, h2]
  rw [fb_addI (by rw [e2]; omega) (by rw [e2]; omega), e2]
/-- the reference's clauses: every place holds a kind, and names earlier places where its kind names some -/
def okR (fk fc fd : Nat → Int32) : Prop := ∀ j : Nat, j < 24 → (0 ≤ (fk j).toInt ∧ (fk j).toInt ≤ 12) ∧ (1 ≤ (nmT (fk j).toNatClampNeg).toInt → 0 ≤ (fc j).toInt ∧ (fc j).toInt < j) ∧ ((nmT (fk j).toNatClampNeg).toInt = 2 → 0 ≤ (fd j).toInt ∧ (fd j).toInt < j)
/-- the first n ends: none behind the last day; what waits ends with what it names -/
def okE (fk fc fe : Nat → Int32) (n : Int) : Prop := ∀ j : Nat, (j : Int) < n → (fe j).toInt ≤ 6 ∧ ((fk j).toInt = 10 ∨ (fk j).toInt = 11 → (fe j).toInt = (fe (fc j).toNatClampNeg).toInt)
/-- what is laid of clause x: its days behind d, and all of the earlier clauses -/
def wbK (g : Nat → Int64) (x d : Int) : Prop := (∀ j : Nat, (j : Int) < 28 * x → 1 ≤ (g j).toInt) ∧ ∀ j : Nat, 28 * x + tri (d + 1) ≤ j → (j : Int) < 28 * x + 28 → 1 ≤ (g j).toInt
end
section
theorem dX13_in_0 : decode cX13_in 0 = .ok (.lload_n 0, 1) := by decide +kernel
theorem dX13_in_1 : decode cX13_in 1 = .ok (.lload_n 2, 1) := by decide +kernel
theorem dX13_in_10 : decode cX13_in 10 = .ok (.ifCond .gt 7, 3) := by decide +kernel
theorem dX13_in_13 : decode cX13_in 13 = .ok (.iconst 1, 1) := by decide +kernel
theorem dX13_in_14 : decode cX13_in 14 = .ok (.goto 4, 3) := by decide +kernel
theorem dX13_in_17 : decode cX13_in 17 = .ok (.iconst 0, 1) := by decide +kernel
theorem dX13_in_18 : decode cX13_in 18 = .ok (.ireturn, 1) := by decide +kernel
theorem dX13_in_2 : decode cX13_in 2 = .ok (.lcmp, 1) := by decide +kernel
theorem dX13_in_3 : decode cX13_in 3 = .ok (.ifCond .lt 14, 3) := by decide +kernel
theorem dX13_in_6 : decode cX13_in 6 = .ok (.lload_n 0, 1) := by decide +kernel
theorem dX13_in_7 : decode cX13_in 7 = .ok (.lload 4, 2) := by decide +kernel
theorem dX13_in_9 : decode cX13_in 9 = .ok (.lcmp, 1) := by decide +kernel
set_option maxHeartbeats 4000000 in
set_option maxRecDepth 100000 in
theorem c_X13_in (l : Launch) (D : va_G) (T : Nat → ClassId) (x0 : Int64) (x1 : Int64) (x2 : Int64) (VV : Int) (LO : Int) (HI : Int) (hVV : x0.toInt = VV) (hLO : x1.toInt = LO) (hHI : x2.toInt = HI) : Met l yX13_in wsX13_in ({ frames := 0, cells := 0, slots := 0, locals := 0 }) (pR [.long x0, .long x1, .long x2] D T []) (vp_Si (fun r => r = if LO ≤ VV ∧ VV ≤ HI then 1 else 0)) 0 0 (fun _ => False) := by
  refine Met.ofW (cc := cX13_in) (maxL := 6) (ret := (some .boolean)) (by decide +kernel) rfl ?_
  intro p e s m args below meth c s₁ B hml hv
  obtain ⟨rfl, hP, hE⟩ := hv
  have hx := B.exec
  have hb := B.bytes
  have hr := B.returns
  have hts := atoms_spec (ws := wsX13_in) B.pre
  have hown : s.vm.findClass RX13 = some m.cls := findClass_of_methodNamed B.named
  have hlocks := B.notSynchronized
  have hP : va_P D vwCl [] s.heap := hP
  have hl := lv_entry ([.long x0, .long x1, .long x2]) (n := 6) (Nat.le_of_ble_eq_true rfl)
  rw [lg_entry_eq]
  generalize (lg_sl ([.long x0, .long x1, .long x2]) ++ List.replicate (6 - (lg_sl ([.long x0, .long x1, .long x2])).length) Slot.unset).toArray = ls at hl ⊢
  have hl : lv_has ls 6 [(0, .long x0), (2, .long x1), (4, .long x2)] := hl
  refine lv_lload_n hx hb dX13_in_0 rfl (lv_at hl 0 rfl) ?_
  refine lv_lload_n hx hb dX13_in_1 rfl (lv_at hl 1 rfl) ?_
  refine W.lcmp hx hb dX13_in_2 ?_
  refine lv_if_lt (tgt := 17) hx hb dX13_in_3 (by decide +kernel) (fun c_1 => ?_) (fun c_1 => ?_)
  · rw [lcmp_lt] at c_1
    refine lv_iconst (v := 0) hx hb dX13_in_17 (by decide +kernel) ?_
    exact W.zret hx hb hr rfl (fun t ht hW => ⟨_, rfl, (by exact (if_neg (by omega)).symm), ht⟩) (fun _ h => by cases h) dX13_in_18
  · rw [lcmp_lt] at c_1
    refine lv_lload_n hx hb dX13_in_6 rfl (lv_at hl 0 rfl) ?_
    refine lv_lload hx hb dX13_in_7 (lv_at hl 2 rfl) ?_
    refine W.lcmp hx hb dX13_in_9 ?_
    refine lv_if_gt (tgt := 17) hx hb dX13_in_10 (by decide +kernel) (fun c_2 => ?_) (fun c_2 => ?_)
    · rw [lcmp_gt] at c_2
      refine lv_iconst (v := 0) hx hb dX13_in_17 (by decide +kernel) ?_
      exact W.zret hx hb hr rfl (fun t ht hW => ⟨_, rfl, (by exact (if_neg (by omega)).symm), ht⟩) (fun _ h => by cases h) dX13_in_18
    · rw [lcmp_gt] at c_2
      refine lv_iconst (v := 1) hx hb dX13_in_13 (by decide +kernel) ?_
      refine lv_goto (tgt := 18) hx hb dX13_in_14 (by decide +kernel) ?_
      exact W.zret hx hb hr rfl (fun t ht hW => ⟨_, rfl, (by exact (if_pos (by omega)).symm), ht⟩) (fun _ h => by cases h) dX13_in_18
theorem no_add {x : Int32} (h : -100 ≤ x.toInt ∧ x.toInt ≤ 0) : ((-4611686018427387904 : Int64) + x.toInt64).toInt = -4611686018427387904 + x.toInt := by
  have e : (-4611686018427387904 : Int64).toInt = -4611686018427387904 := by decide
  rw [Int64.toInt_add, e, Int32.toInt_toInt64, Int.bmod_eq_of_le (by omega) (by omega)]
theorem dX13_refused_0 : decode cX13_refused 0 = .ok (.ldc2_w 129, 3) := by decide +kernel
theorem dX13_refused_3 : decode cX13_refused 3 = .ok (.iload_n 0, 1) := by decide +kernel
theorem dX13_refused_4 : decode cX13_refused 4 = .ok (.i2l, 1) := by decide +kernel
theorem dX13_refused_5 : decode cX13_refused 5 = .ok (.ladd, 1) := by decide +kernel
theorem dX13_refused_6 : decode cX13_refused 6 = .ok (.lreturn, 1) := by decide +kernel
set_option maxHeartbeats 4000000 in
set_option maxRecDepth 100000 in
theorem c_X13_refused (l : Launch) (D : va_G) (T : Nat → ClassId) (x0 : Int32) (hx0 : -100 ≤ x0.toInt ∧ x0.toInt ≤ 0) : Met l yX13_refused wsX13_refused ({ frames := 0, cells := 0, slots := 0, locals := 0 }) (pR [.int x0] D T []) (vp_Sl (fun r => r.toInt = -4611686018427387904 + x0.toInt)) 0 0 (fun _ => False) := by
  refine Met.ofW (cc := cX13_refused) (maxL := 1) (ret := (some .long)) (by decide +kernel) rfl ?_
  intro p e s m args below meth c s₁ B hml hv
  obtain ⟨rfl, hP, hE⟩ := hv
  have hx := B.exec
  have hb := B.bytes
  have hr := B.returns
  have hts := atoms_spec (ws := wsX13_refused) B.pre
  have hown : s.vm.findClass RX13 = some m.cls := findClass_of_methodNamed B.named
  have hlocks := B.notSynchronized
  have hP : va_P D vwCl [] s.heap := hP
  have hl := lv_entry ([.int x0]) (n := 1) (Nat.le_of_ble_eq_true rfl)
  rw [lg_entry_eq]
  generalize (lg_sl ([.int x0]) ++ List.replicate (1 - (lg_sl ([.int x0])).length) Slot.unset).toArray = ls at hl ⊢
  have hl : lv_has ls 1 [(0, .int x0)] := hl
  refine lv_ldc2 (v := (-4611686018427387904)) hx hb hown (hts (.constantLong RX13 129 (-4611686018427387904)) (List.mem_of_getElem? (i := 1) rfl)) dX13_refused_0 ?_
  refine lv_iload_n hx hb dX13_refused_3 rfl (lv_at hl 0 rfl) ?_
  refine lv_i2l hx hb dX13_refused_4 rfl ?_
  refine lv_ladd hx hb dX13_refused_5 ?_
  exact W.lret hx hb hr (fun t ht hW => ⟨_, rfl, (no_add hx0), ht⟩) (fun _ h => by cases h) dX13_refused_6
theorem dX13_isPath_0 : decode cX13_isPath 0 = .ok (.iload_n 0, 1) := by decide +kernel
theorem dX13_isPath_1 : decode cX13_isPath 1 = .ok (.i2l, 1) := by decide +kernel
theorem dX13_isPath_2 : decode cX13_isPath 2 = .ok (.lconst 0, 1) := by decide +kernel
theorem dX13_isPath_3 : decode cX13_isPath 3 = .ok (.ldc2_w 196, 3) := by decide +kernel
theorem dX13_isPath_6 : decode cX13_isPath 6 = .ok (.invokestatic 175, 3) := by decide +kernel
theorem dX13_isPath_9 : decode cX13_isPath 9 = .ok (.ireturn, 1) := by decide +kernel
set_option maxRecDepth 20000 in
theorem ggX13_isPath_X13_in : GoodIn wsX13_isPath wsX13_in := goodIn_r _ [5] rfl (by decide +kernel)
set_option maxRecDepth 20000 in
theorem gX13_isPath_X13_in : GoodIn wsX13_isPath (va_wsS RX13 175 yX13_in wsX13_in) := goodIn_app (goodIn_of _ (by decide +kernel)) ggX13_isPath_X13_in
theorem hs_X13_in : yX13_in.cls ≠ "java/lang/invoke/MethodHandle" ∧ yX13_in.cls ≠ "java/lang/invoke/VarHandle" ∧ (parseMethodDescriptor yX13_in.desc).map (fun d => d.parameters.length) = some 3 := by decide +kernel
set_option maxHeartbeats 4000000 in
set_option maxRecDepth 100000 in
theorem c_X13_isPath (l : Launch) (D : va_G) (T : Nat → ClassId) (x0 : Int32)  : Met l yX13_isPath wsX13_isPath ({ frames := 1, cells := 0, slots := 0, locals := 25 }) (pR [.int x0] D T []) (vp_Si (fun r => r = if 0 ≤ x0.toInt ∧ x0.toInt ≤ 63 then 1 else 0)) 0 0 (fun _ => False) := by
  refine Met.ofW (cc := cX13_isPath) (maxL := 1) (ret := (some .boolean)) (by decide +kernel) rfl ?_
  intro p e s m args below meth c s₁ B hml hv
  obtain ⟨rfl, hP, hE⟩ := hv
  have hx := B.exec
  have hb := B.bytes
  have hr := B.returns
  have hts := atoms_spec (ws := wsX13_isPath) B.pre
  have hown : s.vm.findClass RX13 = some m.cls := findClass_of_methodNamed B.named
  have hlocks := B.notSynchronized
  have hP : va_P D vwCl [] s.heap := hP
  have hl := lv_entry ([.int x0]) (n := 1) (Nat.le_of_ble_eq_true rfl)
  rw [lg_entry_eq]
  generalize (lg_sl ([.int x0]) ++ List.replicate (1 - (lg_sl ([.int x0])).length) Slot.unset).toArray = ls at hl ⊢
  have hl : lv_has ls 1 [(0, .int x0)] := hl
  refine lv_iload_n hx hb dX13_isPath_0 rfl (lv_at hl 0 rfl) ?_
  refine lv_i2l hx hb dX13_isPath_1 rfl ?_
  refine lv_lconst (v := 0) hx hb dX13_isPath_2 (by decide +kernel) ?_
  refine lv_ldc2 (v := 63) hx hb hown (hts (.constantLong RX13 196 (63)) (List.mem_of_getElem? (i := 1) rfl)) dX13_isPath_3 ?_
  refine vp_callSi (W.runS (As := [.long (x0.toInt64), .long 0, .long 63]) (rest := []) ⟨hx, hb, hml, hown, hts⟩ (c_X13_in l D T (x0.toInt64) 0 63 x0.toInt 0 63 ((Int32.toInt_toInt64 _).trans rfl) (by decide +kernel) (by decide +kernel)) (va_cwS 3 hts gX13_isPath_X13_in rfl rfl rfl hs_X13_in ⟨Nat.le_of_ble_eq_true rfl, Nat.le_of_ble_eq_true rfl⟩) (pR_S hP hE [] rfl) rfl rfl hl.1 rfl (lv_room (Nat.le_of_ble_eq_true rfl)) dX13_isPath_6 ⟨Nat.le_of_ble_eq_true rfl, Nat.le_of_ble_eq_true rfl⟩) (fun r_1 hr_1 => ?_)
  rcases bool_post hr_1 with ⟨c_2, rfl⟩ | ⟨c_2, rfl⟩
  · exact W.zret hx hb hr rfl (fun t ht hW => ⟨_, rfl, (by exact (if_pos (by omega)).symm), ht⟩) (fun _ h => by cases h) dX13_isPath_9
  · exact W.zret hx hb hr rfl (fun t ht hW => ⟨_, rfl, (by exact (if_neg (by omega)).symm), ht⟩) (fun _ h => by cases h) dX13_isPath_9
theorem dX13_isBag_0 : decode cX13_isBag 0 = .ok (.iload_n 0, 1) := by decide +kernel
theorem dX13_isBag_1 : decode cX13_isBag 1 = .ok (.i2l, 1) := by decide +kernel
theorem dX13_isBag_2 : decode cX13_isBag 2 = .ok (.lconst 0, 1) := by decide +kernel
theorem dX13_isBag_3 : decode cX13_isBag 3 = .ok (.ldc2_w 184, 3) := by decide +kernel
theorem dX13_isBag_6 : decode cX13_isBag 6 = .ok (.invokestatic 175, 3) := by decide +kernel
theorem dX13_isBag_9 : decode cX13_isBag 9 = .ok (.ireturn, 1) := by decide +kernel
set_option maxRecDepth 20000 in
theorem ggX13_isBag_X13_in : GoodIn wsX13_isBag wsX13_in := goodIn_r _ [5] rfl (by decide +kernel)
set_option maxRecDepth 20000 in
theorem gX13_isBag_X13_in : GoodIn wsX13_isBag (va_wsS RX13 175 yX13_in wsX13_in) := goodIn_app (goodIn_of _ (by decide +kernel)) ggX13_isBag_X13_in
set_option maxHeartbeats 4000000 in
set_option maxRecDepth 100000 in
theorem c_X13_isBag (l : Launch) (D : va_G) (T : Nat → ClassId) (x0 : Int32)  : Met l yX13_isBag wsX13_isBag ({ frames := 1, cells := 0, slots := 0, locals := 25 }) (pR [.int x0] D T []) (vp_Si (fun r => r = if 0 ≤ x0.toInt ∧ x0.toInt ≤ 2 then 1 else 0)) 0 0 (fun _ => False) := by
  refine Met.ofW (cc := cX13_isBag) (maxL := 1) (ret := (some .boolean)) (by decide +kernel) rfl ?_
  intro p e s m args below meth c s₁ B hml hv
  obtain ⟨rfl, hP, hE⟩ := hv
  have hx := B.exec
  have hb := B.bytes
  have hr := B.returns
  have hts := atoms_spec (ws := wsX13_isBag) B.pre
  have hown : s.vm.findClass RX13 = some m.cls := findClass_of_methodNamed B.named
  have hlocks := B.notSynchronized
  have hP : va_P D vwCl [] s.heap := hP
  have hl := lv_entry ([.int x0]) (n := 1) (Nat.le_of_ble_eq_true rfl)
  rw [lg_entry_eq]
  generalize (lg_sl ([.int x0]) ++ List.replicate (1 - (lg_sl ([.int x0])).length) Slot.unset).toArray = ls at hl ⊢
  have hl : lv_has ls 1 [(0, .int x0)] := hl
  refine lv_iload_n hx hb dX13_isBag_0 rfl (lv_at hl 0 rfl) ?_
  refine lv_i2l hx hb dX13_isBag_1 rfl ?_
  refine lv_lconst (v := 0) hx hb dX13_isBag_2 (by decide +kernel) ?_
  refine lv_ldc2 (v := 2) hx hb hown (hts (.constantLong RX13 184 (2)) (List.mem_of_getElem? (i := 1) rfl)) dX13_isBag_3 ?_
  refine vp_callSi (W.runS (As := [.long (x0.toInt64), .long 0, .long 2]) (rest := []) ⟨hx, hb, hml, hown, hts⟩ (c_X13_in l D T (x0.toInt64) 0 2 x0.toInt 0 2 ((Int32.toInt_toInt64 _).trans rfl) (by decide +kernel) (by decide +kernel)) (va_cwS 3 hts gX13_isBag_X13_in rfl rfl rfl hs_X13_in ⟨Nat.le_of_ble_eq_true rfl, Nat.le_of_ble_eq_true rfl⟩) (pR_S hP hE [] rfl) rfl rfl hl.1 rfl (lv_room (Nat.le_of_ble_eq_true rfl)) dX13_isBag_6 ⟨Nat.le_of_ble_eq_true rfl, Nat.le_of_ble_eq_true rfl⟩) (fun r_1 hr_1 => ?_)
  rcases bool_post hr_1 with ⟨c_2, rfl⟩ | ⟨c_2, rfl⟩
  · exact W.zret hx hb hr rfl (fun t ht hW => ⟨_, rfl, (by exact (if_pos (by omega)).symm), ht⟩) (fun _ h => by cases h) dX13_isBag_9
  · exact W.zret hx hb hr rfl (fun t ht hW => ⟨_, rfl, (by exact (if_neg (by omega)).symm), ht⟩) (fun _ h => by cases h) dX13_isBag_9
theorem dX13_isHand_0 : decode cX13_isHand 0 = .ok (.iload_n 0, 1) := by decide +kernel
theorem dX13_isHand_1 : decode cX13_isHand 1 = .ok (.i2l, 1) := by decide +kernel
theorem dX13_isHand_2 : decode cX13_isHand 2 = .ok (.lconst 0, 1) := by decide +kernel
theorem dX13_isHand_3 : decode cX13_isHand 3 = .ok (.ldc2_w 408, 3) := by decide +kernel
theorem dX13_isHand_6 : decode cX13_isHand 6 = .ok (.invokestatic 175, 3) := by decide +kernel
theorem dX13_isHand_9 : decode cX13_isHand 9 = .ok (.ireturn, 1) := by decide +kernel
set_option maxRecDepth 20000 in
theorem ggX13_isHand_X13_in : GoodIn wsX13_isHand wsX13_in := goodIn_r _ [5] rfl (by decide +kernel)
set_option maxRecDepth 20000 in
theorem gX13_isHand_X13_in : GoodIn wsX13_isHand (va_wsS RX13 175 yX13_in wsX13_in) := goodIn_app (goodIn_of _ (by decide +kernel)) ggX13_isHand_X13_in
set_option maxHeartbeats 4000000 in
set_option maxRecDepth 100000 in
theorem c_X13_isHand (l : Launch) (D : va_G) (T : Nat → ClassId) (x0 : Int32)  : Met l yX13_isHand wsX13_isHand ({ frames := 1, cells := 0, slots := 0, locals := 25 }) (pR [.int x0] D T []) (vp_Si (fun r => r = if 0 ≤ x0.toInt ∧ x0.toInt ≤ 3 then 1 else 0)) 0 0 (fun _ => False) := by
  refine Met.ofW (cc := cX13_isHand) (maxL := 1) (ret := (some .boolean)) (by decide +kernel) rfl ?_
  intro p e s m args below meth c s₁ B hml hv
  obtain ⟨rfl, hP, hE⟩ := hv
  have hx := B.exec
  have hb := B.bytes
  have hr := B.returns
  have hts := atoms_spec (ws := wsX13_isHand) B.pre
  have hown : s.vm.findClass RX13 = some m.cls := findClass_of_methodNamed B.named
  have hlocks := B.notSynchronized
  have hP : va_P D vwCl [] s.heap := hP
  have hl := lv_entry ([.int x0]) (n := 1) (Nat.le_of_ble_eq_true rfl)
  rw [lg_entry_eq]
  generalize (lg_sl ([.int x0]) ++ List.replicate (1 - (lg_sl ([.int x0])).length) Slot.unset).toArray = ls at hl ⊢
  have hl : lv_has ls 1 [(0, .int x0)] := hl
  refine lv_iload_n hx hb dX13_isHand_0 rfl (lv_at hl 0 rfl) ?_
  refine lv_i2l hx hb dX13_isHand_1 rfl ?_
  refine lv_lconst (v := 0) hx hb dX13_isHand_2 (by decide +kernel) ?_
  refine lv_ldc2 (v := 3) hx hb hown (hts (.constantLong RX13 408 (3)) (List.mem_of_getElem? (i := 1) rfl)) dX13_isHand_3 ?_
  refine vp_callSi (W.runS (As := [.long (x0.toInt64), .long 0, .long 3]) (rest := []) ⟨hx, hb, hml, hown, hts⟩ (c_X13_in l D T (x0.toInt64) 0 3 x0.toInt 0 3 ((Int32.toInt_toInt64 _).trans rfl) (by decide +kernel) (by decide +kernel)) (va_cwS 3 hts gX13_isHand_X13_in rfl rfl rfl hs_X13_in ⟨Nat.le_of_ble_eq_true rfl, Nat.le_of_ble_eq_true rfl⟩) (pR_S hP hE [] rfl) rfl rfl hl.1 rfl (lv_room (Nat.le_of_ble_eq_true rfl)) dX13_isHand_6 ⟨Nat.le_of_ble_eq_true rfl, Nat.le_of_ble_eq_true rfl⟩) (fun r_1 hr_1 => ?_)
  rcases bool_post hr_1 with ⟨c_2, rfl⟩ | ⟨c_2, rfl⟩
  · exact W.zret hx hb hr rfl (fun t ht hW => ⟨_, rfl, (by exact (if_pos (by omega)).symm), ht⟩) (fun _ h => by cases h) dX13_isHand_9
  · exact W.zret hx hb hr rfl (fun t ht hW => ⟨_, rfl, (by exact (if_neg (by omega)).symm), ht⟩) (fun _ h => by cases h) dX13_isHand_9
theorem dX13_isSheet_0 : decode cX13_isSheet 0 = .ok (.iload_n 0, 1) := by decide +kernel
theorem dX13_isSheet_1 : decode cX13_isSheet 1 = .ok (.i2l, 1) := by decide +kernel
theorem dX13_isSheet_2 : decode cX13_isSheet 2 = .ok (.lconst 0, 1) := by decide +kernel
theorem dX13_isSheet_3 : decode cX13_isSheet 3 = .ok (.ldc2_w 408, 3) := by decide +kernel
theorem dX13_isSheet_6 : decode cX13_isSheet 6 = .ok (.invokestatic 175, 3) := by decide +kernel
theorem dX13_isSheet_9 : decode cX13_isSheet 9 = .ok (.ireturn, 1) := by decide +kernel
set_option maxRecDepth 20000 in
theorem ggX13_isSheet_X13_in : GoodIn wsX13_isSheet wsX13_in := goodIn_r _ [5] rfl (by decide +kernel)
set_option maxRecDepth 20000 in
theorem gX13_isSheet_X13_in : GoodIn wsX13_isSheet (va_wsS RX13 175 yX13_in wsX13_in) := goodIn_app (goodIn_of _ (by decide +kernel)) ggX13_isSheet_X13_in
set_option maxHeartbeats 4000000 in
set_option maxRecDepth 100000 in
theorem c_X13_isSheet (l : Launch) (D : va_G) (T : Nat → ClassId) (x0 : Int32)  : Met l yX13_isSheet wsX13_isSheet ({ frames := 1, cells := 0, slots := 0, locals := 25 }) (pR [.int x0] D T []) (vp_Si (fun r => r = if 0 ≤ x0.toInt ∧ x0.toInt ≤ 3 then 1 else 0)) 0 0 (fun _ => False) := by
  refine Met.ofW (cc := cX13_isSheet) (maxL := 1) (ret := (some .boolean)) (by decide +kernel) rfl ?_
  intro p e s m args below meth c s₁ B hml hv
  obtain ⟨rfl, hP, hE⟩ := hv
  have hx := B.exec
  have hb := B.bytes
  have hr := B.returns
  have hts := atoms_spec (ws := wsX13_isSheet) B.pre
  have hown : s.vm.findClass RX13 = some m.cls := findClass_of_methodNamed B.named
  have hlocks := B.notSynchronized
  have hP : va_P D vwCl [] s.heap := hP
  have hl := lv_entry ([.int x0]) (n := 1) (Nat.le_of_ble_eq_true rfl)
  rw [lg_entry_eq]
  generalize (lg_sl ([.int x0]) ++ List.replicate (1 - (lg_sl ([.int x0])).length) Slot.unset).toArray = ls at hl ⊢
  have hl : lv_has ls 1 [(0, .int x0)] := hl
  refine lv_iload_n hx hb dX13_isSheet_0 rfl (lv_at hl 0 rfl) ?_
  refine lv_i2l hx hb dX13_isSheet_1 rfl ?_
  refine lv_lconst (v := 0) hx hb dX13_isSheet_2 (by decide +kernel) ?_
  refine lv_ldc2 (v := 3) hx hb hown (hts (.constantLong RX13 408 (3)) (List.mem_of_getElem? (i := 1) rfl)) dX13_isSheet_3 ?_
  refine vp_callSi (W.runS (As := [.long (x0.toInt64), .long 0, .long 3]) (rest := []) ⟨hx, hb, hml, hown, hts⟩ (c_X13_in l D T (x0.toInt64) 0 3 x0.toInt 0 3 ((Int32.toInt_toInt64 _).trans rfl) (by decide +kernel) (by decide +kernel)) (va_cwS 3 hts gX13_isSheet_X13_in rfl rfl rfl hs_X13_in ⟨Nat.le_of_ble_eq_true rfl, Nat.le_of_ble_eq_true rfl⟩) (pR_S hP hE [] rfl) rfl rfl hl.1 rfl (lv_room (Nat.le_of_ble_eq_true rfl)) dX13_isSheet_6 ⟨Nat.le_of_ble_eq_true rfl, Nat.le_of_ble_eq_true rfl⟩) (fun r_1 hr_1 => ?_)
  rcases bool_post hr_1 with ⟨c_2, rfl⟩ | ⟨c_2, rfl⟩
  · exact W.zret hx hb hr rfl (fun t ht hW => ⟨_, rfl, (by exact (if_pos (by omega)).symm), ht⟩) (fun _ h => by cases h) dX13_isSheet_9
  · exact W.zret hx hb hr rfl (fun t ht hW => ⟨_, rfl, (by exact (if_neg (by omega)).symm), ht⟩) (fun _ h => by cases h) dX13_isSheet_9
theorem dX13_isSpot_0 : decode cX13_isSpot 0 = .ok (.iload_n 0, 1) := by decide +kernel
theorem dX13_isSpot_1 : decode cX13_isSpot 1 = .ok (.i2l, 1) := by decide +kernel
theorem dX13_isSpot_12 : decode cX13_isSpot 12 = .ok (.iload_n 1, 1) := by decide +kernel
theorem dX13_isSpot_13 : decode cX13_isSpot 13 = .ok (.i2l, 1) := by decide +kernel
theorem dX13_isSpot_14 : decode cX13_isSpot 14 = .ok (.lconst 0, 1) := by decide +kernel
theorem dX13_isSpot_15 : decode cX13_isSpot 15 = .ok (.iload_n 0, 1) := by decide +kernel
theorem dX13_isSpot_16 : decode cX13_isSpot 16 = .ok (.i2l, 1) := by decide +kernel
theorem dX13_isSpot_17 : decode cX13_isSpot 17 = .ok (.invokestatic 175, 3) := by decide +kernel
theorem dX13_isSpot_2 : decode cX13_isSpot 2 = .ok (.lconst 0, 1) := by decide +kernel
theorem dX13_isSpot_20 : decode cX13_isSpot 20 = .ok (.ifCond .eq 7, 3) := by decide +kernel
theorem dX13_isSpot_23 : decode cX13_isSpot 23 = .ok (.iconst 1, 1) := by decide +kernel
theorem dX13_isSpot_24 : decode cX13_isSpot 24 = .ok (.goto 4, 3) := by decide +kernel
theorem dX13_isSpot_27 : decode cX13_isSpot 27 = .ok (.iconst 0, 1) := by decide +kernel
theorem dX13_isSpot_28 : decode cX13_isSpot 28 = .ok (.ireturn, 1) := by decide +kernel
theorem dX13_isSpot_3 : decode cX13_isSpot 3 = .ok (.ldc2_w 186, 3) := by decide +kernel
theorem dX13_isSpot_6 : decode cX13_isSpot 6 = .ok (.invokestatic 175, 3) := by decide +kernel
theorem dX13_isSpot_9 : decode cX13_isSpot 9 = .ok (.ifCond .eq 18, 3) := by decide +kernel
set_option maxRecDepth 20000 in
theorem ggX13_isSpot_X13_in : GoodIn wsX13_isSpot wsX13_in := goodIn_r _ [5] rfl (by decide +kernel)
set_option maxRecDepth 20000 in
theorem gX13_isSpot_X13_in : GoodIn wsX13_isSpot (va_wsS RX13 175 yX13_in wsX13_in) := goodIn_app (goodIn_of _ (by decide +kernel)) ggX13_isSpot_X13_in
set_option maxHeartbeats 4000000 in
set_option maxRecDepth 100000 in
theorem c_X13_isSpot (l : Launch) (D : va_G) (T : Nat → ClassId) (x0 : Int32) (x1 : Int32)  : Met l yX13_isSpot wsX13_isSpot ({ frames := 1, cells := 0, slots := 0, locals := 25 }) (pR [.int x0, .int x1] D T []) (vp_Si (fun r => r = if (0 ≤ x0.toInt ∧ x0.toInt ≤ 6) ∧ 0 ≤ x1.toInt ∧ x1.toInt ≤ x0.toInt then 1 else 0)) 0 0 (fun _ => False) := by
  refine Met.ofW (cc := cX13_isSpot) (maxL := 2) (ret := (some .boolean)) (by decide +kernel) rfl ?_
  intro p e s m args below meth c s₁ B hml hv
  obtain ⟨rfl, hP, hE⟩ := hv
  have hx := B.exec
  have hb := B.bytes
  have hr := B.returns
  have hts := atoms_spec (ws := wsX13_isSpot) B.pre
  have hown : s.vm.findClass RX13 = some m.cls := findClass_of_methodNamed B.named
  have hlocks := B.notSynchronized
  have hP : va_P D vwCl [] s.heap := hP
  have hl := lv_entry ([.int x0, .int x1]) (n := 2) (Nat.le_of_ble_eq_true rfl)
  rw [lg_entry_eq]
  generalize (lg_sl ([.int x0, .int x1]) ++ List.replicate (2 - (lg_sl ([.int x0, .int x1])).length) Slot.unset).toArray = ls at hl ⊢
  have hl : lv_has ls 2 [(0, .int x0), (1, .int x1)] := hl
  refine lv_iload_n hx hb dX13_isSpot_0 rfl (lv_at hl 0 rfl) ?_
  refine lv_i2l hx hb dX13_isSpot_1 rfl ?_
  refine lv_lconst (v := 0) hx hb dX13_isSpot_2 (by decide +kernel) ?_
  refine lv_ldc2 (v := 6) hx hb hown (hts (.constantLong RX13 186 (6)) (List.mem_of_getElem? (i := 1) rfl)) dX13_isSpot_3 ?_
  refine vp_callSi (W.runS (As := [.long (x0.toInt64), .long 0, .long 6]) (rest := []) ⟨hx, hb, hml, hown, hts⟩ (c_X13_in l D T (x0.toInt64) 0 6 x0.toInt 0 6 ((Int32.toInt_toInt64 _).trans rfl) (by decide +kernel) (by decide +kernel)) (va_cwS 3 hts gX13_isSpot_X13_in rfl rfl rfl hs_X13_in ⟨Nat.le_of_ble_eq_true rfl, Nat.le_of_ble_eq_true rfl⟩) (pR_S hP hE [] rfl) rfl rfl hl.1 rfl (lv_room (Nat.le_of_ble_eq_true rfl)) dX13_isSpot_6 ⟨Nat.le_of_ble_eq_true rfl, Nat.le_of_ble_eq_true rfl⟩) (fun r_1 hr_1 => ?_)
  rcases bool_post hr_1 with ⟨c_2, rfl⟩ | ⟨c_2, rfl⟩
  · refine lv_if_eq (tgt := 27) hx hb dX13_isSpot_9 (by decide +kernel) (fun c9 => absurd c9 (by decide +kernel)) (fun _ => ?_)
    refine lv_iload_n hx hb dX13_isSpot_12 rfl (lv_at hl 1 rfl) ?_
    refine lv_i2l hx hb dX13_isSpot_13 rfl ?_
    refine lv_lconst (v := 0) hx hb dX13_isSpot_14 (by decide +kernel) ?_
    refine lv_iload_n hx hb dX13_isSpot_15 rfl (lv_at hl 0 rfl) ?_
    refine lv_i2l hx hb dX13_isSpot_16 rfl ?_
    refine vp_callSi (W.runS (As := [.long (x1.toInt64), .long 0, .long (x0.toInt64)]) (rest := []) ⟨hx, hb, hml, hown, hts⟩ (c_X13_in l D T (x1.toInt64) 0 (x0.toInt64) x1.toInt 0 x0.toInt ((Int32.toInt_toInt64 _).trans rfl) (by decide +kernel) ((Int32.toInt_toInt64 _).trans rfl)) (va_cwS 3 hts gX13_isSpot_X13_in rfl rfl rfl hs_X13_in ⟨Nat.le_of_ble_eq_true rfl, Nat.le_of_ble_eq_true rfl⟩) (pR_S hP hE [] rfl) rfl rfl hl.1 rfl (lv_room (Nat.le_of_ble_eq_true rfl)) dX13_isSpot_17 ⟨Nat.le_of_ble_eq_true rfl, Nat.le_of_ble_eq_true rfl⟩) (fun r_3 hr_3 => ?_)
    rcases bool_post hr_3 with ⟨c_4, rfl⟩ | ⟨c_4, rfl⟩
    · refine lv_if_eq (tgt := 27) hx hb dX13_isSpot_20 (by decide +kernel) (fun c9 => absurd c9 (by decide +kernel)) (fun _ => ?_)
      refine lv_iconst (v := 1) hx hb dX13_isSpot_23 (by decide +kernel) ?_
      refine lv_goto (tgt := 28) hx hb dX13_isSpot_24 (by decide +kernel) ?_
      exact W.zret hx hb hr rfl (fun t ht hW => ⟨_, rfl, (by exact (if_pos (by omega)).symm), ht⟩) (fun _ h => by cases h) dX13_isSpot_28
    · refine lv_if_eq (tgt := 27) hx hb dX13_isSpot_20 (by decide +kernel) (fun _ => ?_) (fun c9 => absurd c9 (by decide +kernel))
      refine lv_iconst (v := 0) hx hb dX13_isSpot_27 (by decide +kernel) ?_
      exact W.zret hx hb hr rfl (fun t ht hW => ⟨_, rfl, (by exact (if_neg (by omega)).symm), ht⟩) (fun _ h => by cases h) dX13_isSpot_28
  · refine lv_if_eq (tgt := 27) hx hb dX13_isSpot_9 (by decide +kernel) (fun _ => ?_) (fun c9 => absurd c9 (by decide +kernel))
    refine lv_iconst (v := 0) hx hb dX13_isSpot_27 (by decide +kernel) ?_
    exact W.zret hx hb hr rfl (fun t ht hW => ⟨_, rfl, (by exact (if_neg (by omega)).symm), ht⟩) (fun _ h => by cases h) dX13_isSpot_28
theorem dX13_names_0 : decode cX13_names 0 = .ok (.iload_n 0, 1) := by decide +kernel
theorem dX13_names_1 : decode cX13_names 1 = .ok (.ifCond .eq 8, 3) := by decide +kernel
theorem dX13_names_10 : decode cX13_names 10 = .ok (.goto 37, 3) := by decide +kernel
theorem dX13_names_13 : decode cX13_names 13 = .ok (.iload_n 0, 1) := by decide +kernel
theorem dX13_names_14 : decode cX13_names 14 = .ok (.iconst 5, 1) := by decide +kernel
theorem dX13_names_15 : decode cX13_names 15 = .ok (.if_icmp .eq 27, 3) := by decide +kernel
theorem dX13_names_18 : decode cX13_names 18 = .ok (.iload_n 0, 1) := by decide +kernel
theorem dX13_names_19 : decode cX13_names 19 = .ok (.bipush 6, 2) := by decide +kernel
theorem dX13_names_21 : decode cX13_names 21 = .ok (.if_icmp .eq 21, 3) := by decide +kernel
theorem dX13_names_24 : decode cX13_names 24 = .ok (.iload_n 0, 1) := by decide +kernel
theorem dX13_names_25 : decode cX13_names 25 = .ok (.bipush 7, 2) := by decide +kernel
theorem dX13_names_27 : decode cX13_names 27 = .ok (.if_icmp .eq 15, 3) := by decide +kernel
theorem dX13_names_30 : decode cX13_names 30 = .ok (.iload_n 0, 1) := by decide +kernel
theorem dX13_names_31 : decode cX13_names 31 = .ok (.bipush 9, 2) := by decide +kernel
theorem dX13_names_33 : decode cX13_names 33 = .ok (.if_icmp .eq 9, 3) := by decide +kernel
theorem dX13_names_36 : decode cX13_names 36 = .ok (.iload_n 0, 1) := by decide +kernel
theorem dX13_names_37 : decode cX13_names 37 = .ok (.bipush 12, 2) := by decide +kernel
theorem dX13_names_39 : decode cX13_names 39 = .ok (.if_icmp .ne 7, 3) := by decide +kernel
theorem dX13_names_4 : decode cX13_names 4 = .ok (.iload_n 0, 1) := by decide +kernel
theorem dX13_names_42 : decode cX13_names 42 = .ok (.iconst 2, 1) := by decide +kernel
theorem dX13_names_43 : decode cX13_names 43 = .ok (.goto 4, 3) := by decide +kernel
theorem dX13_names_46 : decode cX13_names 46 = .ok (.iconst 1, 1) := by decide +kernel
theorem dX13_names_47 : decode cX13_names 47 = .ok (.ireturn, 1) := by decide +kernel
theorem dX13_names_5 : decode cX13_names 5 = .ok (.iconst 1, 1) := by decide +kernel
theorem dX13_names_6 : decode cX13_names 6 = .ok (.if_icmp .ne 7, 3) := by decide +kernel
theorem dX13_names_9 : decode cX13_names 9 = .ok (.iconst 0, 1) := by decide +kernel
set_option maxHeartbeats 4000000 in
set_option maxRecDepth 100000 in
theorem c_X13_names (l : Launch) (D : va_G) (T : Nat → ClassId) (x0 : Int32) (hxn : 0 ≤ x0.toInt ∧ x0.toInt ≤ 12) : Met l yX13_names wsX13_names ({ frames := 0, cells := 0, slots := 0, locals := 0 }) (pR [.int x0] D T []) (vp_Si (fun r => r.toInt = (nmT (x0.toNatClampNeg)).toInt ∧ 0 ≤ r.toInt ∧ r.toInt ≤ 2)) 0 0 (fun _ => False) := by
  refine Met.ofW (cc := cX13_names) (maxL := 1) (ret := (some .int)) (by decide +kernel) rfl ?_
  intro p e s m args below meth c s₁ B hml hv
  obtain ⟨rfl, hP, hE⟩ := hv
  have hx := B.exec
  have hb := B.bytes
  have hr := B.returns
  have hts := atoms_spec (ws := wsX13_names) B.pre
  have hown : s.vm.findClass RX13 = some m.cls := findClass_of_methodNamed B.named
  have hlocks := B.notSynchronized
  have hP : va_P D vwCl [] s.heap := hP
  have hl := lv_entry ([.int x0]) (n := 1) (Nat.le_of_ble_eq_true rfl)
  rw [lg_entry_eq]
  generalize (lg_sl ([.int x0]) ++ List.replicate (1 - (lg_sl ([.int x0])).length) Slot.unset).toArray = ls at hl ⊢
  have hl : lv_has ls 1 [(0, .int x0)] := hl
  rcases in13i (x := x0) (by omega) with rfl | rfl | rfl | rfl | rfl | rfl | rfl | rfl | rfl | rfl | rfl | rfl | rfl
  · refine lv_iload_n hx hb dX13_names_0 rfl (lv_at hl 0 rfl) ?_
    refine lv_if_eq (tgt := 9) hx hb dX13_names_1 (by decide +kernel) (fun _ => ?_) (fun c9 => absurd c9 (by decide +kernel))
    refine lv_iconst (v := 0) hx hb dX13_names_9 (by decide +kernel) ?_
    refine lv_goto (tgt := 47) hx hb dX13_names_10 (by decide +kernel) ?_
    exact W.iret hx hb hr (fun t ht hW => ⟨_, rfl, (by decide +kernel), ht⟩) (fun _ h => by cases h) dX13_names_47
  · refine lv_iload_n hx hb dX13_names_0 rfl (lv_at hl 0 rfl) ?_
    refine lv_if_eq (tgt := 9) hx hb dX13_names_1 (by decide +kernel) (fun c9 => absurd c9 (by decide +kernel)) (fun _ => ?_)
    refine lv_iload_n hx hb dX13_names_4 rfl (lv_at hl 0 rfl) ?_
    refine lv_iconst (v := 1) hx hb dX13_names_5 (by decide +kernel) ?_
    refine lv_icmp_ne (tgt := 13) hx hb dX13_names_6 (by decide +kernel) (fun c9 => absurd c9 (by decide +kernel)) (fun _ => ?_)
    refine lv_iconst (v := 0) hx hb dX13_names_9 (by decide +kernel) ?_
    refine lv_goto (tgt := 47) hx hb dX13_names_10 (by decide +kernel) ?_
    exact W.iret hx hb hr (fun t ht hW => ⟨_, rfl, (by decide +kernel), ht⟩) (fun _ h => by cases h) dX13_names_47
  · refine lv_iload_n hx hb dX13_names_0 rfl (lv_at hl 0 rfl) ?_
    refine lv_if_eq (tgt := 9) hx hb dX13_names_1 (by decide +kernel) (fun c9 => absurd c9 (by decide +kernel)) (fun _ => ?_)
    refine lv_iload_n hx hb dX13_names_4 rfl (lv_at hl 0 rfl) ?_
    refine lv_iconst (v := 1) hx hb dX13_names_5 (by decide +kernel) ?_
    refine lv_icmp_ne (tgt := 13) hx hb dX13_names_6 (by decide +kernel) (fun _ => ?_) (fun c9 => absurd c9 (by decide +kernel))
    refine lv_iload_n hx hb dX13_names_13 rfl (lv_at hl 0 rfl) ?_
    refine lv_iconst (v := 5) hx hb dX13_names_14 (by decide +kernel) ?_
    refine lv_icmp_eq (tgt := 42) hx hb dX13_names_15 (by decide +kernel) (fun c9 => absurd c9 (by decide +kernel)) (fun _ => ?_)
    refine lv_iload_n hx hb dX13_names_18 rfl (lv_at hl 0 rfl) ?_
    refine lv_bipush (v := 6) hx hb dX13_names_19 (by decide +kernel) ?_
    refine lv_icmp_eq (tgt := 42) hx hb dX13_names_21 (by decide +kernel) (fun c9 => absurd c9 (by decide +kernel)) (fun _ => ?_)
    refine lv_iload_n hx hb dX13_names_24 rfl (lv_at hl 0 rfl) ?_
    refine lv_bipush (v := 7) hx hb dX13_names_25 (by decide +kernel) ?_
    refine lv_icmp_eq (tgt := 42) hx hb dX13_names_27 (by decide +kernel) (fun c9 => absurd c9 (by decide +kernel)) (fun _ => ?_)
    refine lv_iload_n hx hb dX13_names_30 rfl (lv_at hl 0 rfl) ?_
    refine lv_bipush (v := 9) hx hb dX13_names_31 (by decide +kernel) ?_
    refine lv_icmp_eq (tgt := 42) hx hb dX13_names_33 (by decide +kernel) (fun c9 => absurd c9 (by decide +kernel)) (fun _ => ?_)
    refine lv_iload_n hx hb dX13_names_36 rfl (lv_at hl 0 rfl) ?_
    refine lv_bipush (v := 12) hx hb dX13_names_37 (by decide +kernel) ?_
    refine lv_icmp_ne (tgt := 46) hx hb dX13_names_39 (by decide +kernel) (fun _ => ?_) (fun c9 => absurd c9 (by decide +kernel))
    refine lv_iconst (v := 1) hx hb dX13_names_46 (by decide +kernel) ?_
    exact W.iret hx hb hr (fun t ht hW => ⟨_, rfl, (by decide +kernel), ht⟩) (fun _ h => by cases h) dX13_names_47
  · refine lv_iload_n hx hb dX13_names_0 rfl (lv_at hl 0 rfl) ?_
    refine lv_if_eq (tgt := 9) hx hb dX13_names_1 (by decide +kernel) (fun c9 => absurd c9 (by decide +kernel)) (fun _ => ?_)
    refine lv_iload_n hx hb dX13_names_4 rfl (lv_at hl 0 rfl) ?_
    refine lv_iconst (v := 1) hx hb dX13_names_5 (by decide +kernel) ?_
    refine lv_icmp_ne (tgt := 13) hx hb dX13_names_6 (by decide +kernel) (fun _ => ?_) (fun c9 => absurd c9 (by decide +kernel))
    refine lv_iload_n hx hb dX13_names_13 rfl (lv_at hl 0 rfl) ?_
    refine lv_iconst (v := 5) hx hb dX13_names_14 (by decide +kernel) ?_
    refine lv_icmp_eq (tgt := 42) hx hb dX13_names_15 (by decide +kernel) (fun c9 => absurd c9 (by decide +kernel)) (fun _ => ?_)
    refine lv_iload_n hx hb dX13_names_18 rfl (lv_at hl 0 rfl) ?_
    refine lv_bipush (v := 6) hx hb dX13_names_19 (by decide +kernel) ?_
    refine lv_icmp_eq (tgt := 42) hx hb dX13_names_21 (by decide +kernel) (fun c9 => absurd c9 (by decide +kernel)) (fun _ => ?_)
    refine lv_iload_n hx hb dX13_names_24 rfl (lv_at hl 0 rfl) ?_
    refine lv_bipush (v := 7) hx hb dX13_names_25 (by decide +kernel) ?_
    refine lv_icmp_eq (tgt := 42) hx hb dX13_names_27 (by decide +kernel) (fun c9 => absurd c9 (by decide +kernel)) (fun _ => ?_)
    refine lv_iload_n hx hb dX13_names_30 rfl (lv_at hl 0 rfl) ?_
    refine lv_bipush (v := 9) hx hb dX13_names_31 (by decide +kernel) ?_
    refine lv_icmp_eq (tgt := 42) hx hb dX13_names_33 (by decide +kernel) (fun c9 => absurd c9 (by decide +kernel)) (fun _ => ?_)
    refine lv_iload_n hx hb dX13_names_36 rfl (lv_at hl 0 rfl) ?_
    refine lv_bipush (v := 12) hx hb dX13_names_37 (by decide +kernel) ?_
    refine lv_icmp_ne (tgt := 46) hx hb dX13_names_39 (by decide +kernel) (fun _ => ?_) (fun c9 => absurd c9 (by decide +kernel))
    refine lv_iconst (v := 1) hx hb dX13_names_46 (by decide +kernel) ?_
    exact W.iret hx hb hr (fun t ht hW => ⟨_, rfl, (by decide +kernel), ht⟩) (fun _ h => by cases h) dX13_names_47
  · refine lv_iload_n hx hb dX13_names_0 rfl (lv_at hl 0 rfl) ?_
    refine lv_if_eq (tgt := 9) hx hb dX13_names_1 (by decide +kernel) (fun c9 => absurd c9 (by decide +kernel)) (fun _ => ?_)
    refine lv_iload_n hx hb dX13_names_4 rfl (lv_at hl 0 rfl) ?_
    refine lv_iconst (v := 1) hx hb dX13_names_5 (by decide +kernel) ?_
    refine lv_icmp_ne (tgt := 13) hx hb dX13_names_6 (by decide +kernel) (fun _ => ?_) (fun c9 => absurd c9 (by decide +kernel))
    refine lv_iload_n hx hb dX13_names_13 rfl (lv_at hl 0 rfl) ?_
    refine lv_iconst (v := 5) hx hb dX13_names_14 (by decide +kernel) ?_
    refine lv_icmp_eq (tgt := 42) hx hb dX13_names_15 (by decide +kernel) (fun c9 => absurd c9 (by decide +kernel)) (fun _ => ?_)
    refine lv_iload_n hx hb dX13_names_18 rfl (lv_at hl 0 rfl) ?_
    refine lv_bipush (v := 6) hx hb dX13_names_19 (by decide +kernel) ?_
    refine lv_icmp_eq (tgt := 42) hx hb dX13_names_21 (by decide +kernel) (fun c9 => absurd c9 (by decide +kernel)) (fun _ => ?_)
    refine lv_iload_n hx hb dX13_names_24 rfl (lv_at hl 0 rfl) ?_
    refine lv_bipush (v := 7) hx hb dX13_names_25 (by decide +kernel) ?_
    refine lv_icmp_eq (tgt := 42) hx hb dX13_names_27 (by decide +kernel) (fun c9 => absurd c9 (by decide +kernel)) (fun _ => ?_)
    refine lv_iload_n hx hb dX13_names_30 rfl (lv_at hl 0 rfl) ?_
    refine lv_bipush (v := 9) hx hb dX13_names_31 (by decide +kernel) ?_
    refine lv_icmp_eq (tgt := 42) hx hb dX13_names_33 (by decide +kernel) (fun c9 => absurd c9 (by decide +kernel)) (fun _ => ?_)
    refine lv_iload_n hx hb dX13_names_36 rfl (lv_at hl 0 rfl) ?_
    refine lv_bipush (v := 12) hx hb dX13_names_37 (by decide +kernel) ?_
    refine lv_icmp_ne (tgt := 46) hx hb dX13_names_39 (by decide +kernel) (fun _ => ?_) (fun c9 => absurd c9 (by decide +kernel))
    refine lv_iconst (v := 1) hx hb dX13_names_46 (by decide +kernel) ?_
    exact W.iret hx hb hr (fun t ht hW => ⟨_, rfl, (by decide +kernel), ht⟩) (fun _ h => by cases h) dX13_names_47
  · refine lv_iload_n hx hb dX13_names_0 rfl (lv_at hl 0 rfl) ?_
    refine lv_if_eq (tgt := 9) hx hb dX13_names_1 (by decide +kernel) (fun c9 => absurd c9 (by decide +kernel)) (fun _ => ?_)
    refine lv_iload_n hx hb dX13_names_4 rfl (lv_at hl 0 rfl) ?_
    refine lv_iconst (v := 1) hx hb dX13_names_5 (by decide +kernel) ?_
    refine lv_icmp_ne (tgt := 13) hx hb dX13_names_6 (by decide +kernel) (fun _ => ?_) (fun c9 => absurd c9 (by decide +kernel))
    refine lv_iload_n hx hb dX13_names_13 rfl (lv_at hl 0 rfl) ?_
    refine lv_iconst (v := 5) hx hb dX13_names_14 (by decide +kernel) ?_
    refine lv_icmp_eq (tgt := 42) hx hb dX13_names_15 (by decide +kernel) (fun _ => ?_) (fun c9 => absurd c9 (by decide +kernel))
    refine lv_iconst (v := 2) hx hb dX13_names_42 (by decide +kernel) ?_
    refine lv_goto (tgt := 47) hx hb dX13_names_43 (by decide +kernel) ?_
    exact W.iret hx hb hr (fun t ht hW => ⟨_, rfl, (by decide +kernel), ht⟩) (fun _ h => by cases h) dX13_names_47
  · refine lv_iload_n hx hb dX13_names_0 rfl (lv_at hl 0 rfl) ?_
    refine lv_if_eq (tgt := 9) hx hb dX13_names_1 (by decide +kernel) (fun c9 => absurd c9 (by decide +kernel)) (fun _ => ?_)
    refine lv_iload_n hx hb dX13_names_4 rfl (lv_at hl 0 rfl) ?_
    refine lv_iconst (v := 1) hx hb dX13_names_5 (by decide +kernel) ?_
    refine lv_icmp_ne (tgt := 13) hx hb dX13_names_6 (by decide +kernel) (fun _ => ?_) (fun c9 => absurd c9 (by decide +kernel))
    refine lv_iload_n hx hb dX13_names_13 rfl (lv_at hl 0 rfl) ?_
    refine lv_iconst (v := 5) hx hb dX13_names_14 (by decide +kernel) ?_
    refine lv_icmp_eq (tgt := 42) hx hb dX13_names_15 (by decide +kernel) (fun c9 => absurd c9 (by decide +kernel)) (fun _ => ?_)
    refine lv_iload_n hx hb dX13_names_18 rfl (lv_at hl 0 rfl) ?_
    refine lv_bipush (v := 6) hx hb dX13_names_19 (by decide +kernel) ?_
    refine lv_icmp_eq (tgt := 42) hx hb dX13_names_21 (by decide +kernel) (fun _ => ?_) (fun c9 => absurd c9 (by decide +kernel))
    refine lv_iconst (v := 2) hx hb dX13_names_42 (by decide +kernel) ?_
    refine lv_goto (tgt := 47) hx hb dX13_names_43 (by decide +kernel) ?_
    exact W.iret hx hb hr (fun t ht hW => ⟨_, rfl, (by decide +kernel), ht⟩) (fun _ h => by cases h) dX13_names_47
  · refine lv_iload_n hx hb dX13_names_0 rfl (lv_at hl 0 rfl) ?_
    refine lv_if_eq (tgt := 9) hx hb dX13_names_1 (by decide +kernel) (fun c9 => absurd c9 (by decide +kernel)) (fun _ => ?_)
    refine lv_iload_n hx hb dX13_names_4 rfl (lv_at hl 0 rfl) ?_
    refine lv_iconst (v := 1) hx hb dX13_names_5 (by decide +kernel) ?_
    refine lv_icmp_ne (tgt := 13) hx hb dX13_names_6 (by decide +kernel) (fun _ => ?_) (fun c9 => absurd c9 (by decide +kernel))
    refine lv_iload_n hx hb dX13_names_13 rfl (lv_at hl 0 rfl) ?_
    refine lv_iconst (v := 5) hx hb dX13_names_14 (by decide +kernel) ?_
    refine lv_icmp_eq (tgt := 42) hx hb dX13_names_15 (by decide +kernel) (fun c9 => absurd c9 (by decide +kernel)) (fun _ => ?_)
    refine lv_iload_n hx hb dX13_names_18 rfl (lv_at hl 0 rfl) ?_
    refine lv_bipush (v := 6) hx hb dX13_names_19 (by decide +kernel) ?_
    refine lv_icmp_eq (tgt := 42) hx hb dX13_names_21 (by decide +kernel) (fun c9 => absurd c9 (by decide +kernel)) (fun _ => ?_)
    refine lv_iload_n hx hb dX13_names_24 rfl (lv_at hl 0 rfl) ?_
    refine lv_bipush (v := 7) hx hb dX13_names_25 (by decide +kernel) ?_
    refine lv_icmp_eq (tgt := 42) hx hb dX13_names_27 (by decide +kernel) (fun _ => ?_) (fun c9 => absurd c9 (by decide +kernel))
    refine lv_iconst (v := 2) hx hb dX13_names_42 (by decide +kernel) ?_
    refine lv_goto (tgt := 47) hx hb dX13_names_43 (by decide +kernel) ?_
    exact W.iret hx hb hr (fun t ht hW => ⟨_, rfl, (by decide +kernel), ht⟩) (fun _ h => by cases h) dX13_names_47
  · refine lv_iload_n hx hb dX13_names_0 rfl (lv_at hl 0 rfl) ?_
    refine lv_if_eq (tgt := 9) hx hb dX13_names_1 (by decide +kernel) (fun c9 => absurd c9 (by decide +kernel)) (fun _ => ?_)
    refine lv_iload_n hx hb dX13_names_4 rfl (lv_at hl 0 rfl) ?_
    refine lv_iconst (v := 1) hx hb dX13_names_5 (by decide +kernel) ?_
    refine lv_icmp_ne (tgt := 13) hx hb dX13_names_6 (by decide +kernel) (fun _ => ?_) (fun c9 => absurd c9 (by decide +kernel))
    refine lv_iload_n hx hb dX13_names_13 rfl (lv_at hl 0 rfl) ?_
    refine lv_iconst (v := 5) hx hb dX13_names_14 (by decide +kernel) ?_
    refine lv_icmp_eq (tgt := 42) hx hb dX13_names_15 (by decide +kernel) (fun c9 => absurd c9 (by decide +kernel)) (fun _ => ?_)
    refine lv_iload_n hx hb dX13_names_18 rfl (lv_at hl 0 rfl) ?_
    refine lv_bipush (v := 6) hx hb dX13_names_19 (by decide +kernel) ?_
    refine lv_icmp_eq (tgt := 42) hx hb dX13_names_21 (by decide +kernel) (fun c9 => absurd c9 (by decide +kernel)) (fun _ => ?_)
    refine lv_iload_n hx hb dX13_names_24 rfl (lv_at hl 0 rfl) ?_
    refine lv_bipush (v := 7) hx hb dX13_names_25 (by decide +kernel) ?_
    refine lv_icmp_eq (tgt := 42) hx hb dX13_names_27 (by decide +kernel) (fun c9 => absurd c9 (by decide +kernel)) (fun _ => ?_)
    refine lv_iload_n hx hb dX13_names_30 rfl (lv_at hl 0 rfl) ?_
    refine lv_bipush (v := 9) hx hb dX13_names_31 (by decide +kernel) ?_
    refine lv_icmp_eq (tgt := 42) hx hb dX13_names_33 (by decide +kernel) (fun c9 => absurd c9 (by decide +kernel)) (fun _ => ?_)
    refine lv_iload_n hx hb dX13_names_36 rfl (lv_at hl 0 rfl) ?_
    refine lv_bipush (v := 12) hx hb dX13_names_37 (by decide +kernel) ?_
    refine lv_icmp_ne (tgt := 46) hx hb dX13_names_39 (by decide +kernel) (fun _ => ?_) (fun c9 => absurd c9 (by decide +kernel))
    refine lv_iconst (v := 1) hx hb dX13_names_46 (by decide +kernel) ?_
    exact W.iret hx hb hr (fun t ht hW => ⟨_, rfl, (by decide +kernel), ht⟩) (fun _ h => by cases h) dX13_names_47
  · refine lv_iload_n hx hb dX13_names_0 rfl (lv_at hl 0 rfl) ?_
    refine lv_if_eq (tgt := 9) hx hb dX13_names_1 (by decide +kernel) (fun c9 => absurd c9 (by decide +kernel)) (fun _ => ?_)
    refine lv_iload_n hx hb dX13_names_4 rfl (lv_at hl 0 rfl) ?_
    refine lv_iconst (v := 1) hx hb dX13_names_5 (by decide +kernel) ?_
    refine lv_icmp_ne (tgt := 13) hx hb dX13_names_6 (by decide +kernel) (fun _ => ?_) (fun c9 => absurd c9 (by decide +kernel))
    refine lv_iload_n hx hb dX13_names_13 rfl (lv_at hl 0 rfl) ?_
    refine lv_iconst (v := 5) hx hb dX13_names_14 (by decide +kernel) ?_
    refine lv_icmp_eq (tgt := 42) hx hb dX13_names_15 (by decide +kernel) (fun c9 => absurd c9 (by decide +kernel)) (fun _ => ?_)
    refine lv_iload_n hx hb dX13_names_18 rfl (lv_at hl 0 rfl) ?_
    refine lv_bipush (v := 6) hx hb dX13_names_19 (by decide +kernel) ?_
    refine lv_icmp_eq (tgt := 42) hx hb dX13_names_21 (by decide +kernel) (fun c9 => absurd c9 (by decide +kernel)) (fun _ => ?_)
    refine lv_iload_n hx hb dX13_names_24 rfl (lv_at hl 0 rfl) ?_
    refine lv_bipush (v := 7) hx hb dX13_names_25 (by decide +kernel) ?_
    refine lv_icmp_eq (tgt := 42) hx hb dX13_names_27 (by decide +kernel) (fun c9 => absurd c9 (by decide +kernel)) (fun _ => ?_)
    refine lv_iload_n hx hb dX13_names_30 rfl (lv_at hl 0 rfl) ?_
    refine lv_bipush (v := 9) hx hb dX13_names_31 (by decide +kernel) ?_
    refine lv_icmp_eq (tgt := 42) hx hb dX13_names_33 (by decide +kernel) (fun _ => ?_) (fun c9 => absurd c9 (by decide +kernel))
    refine lv_iconst (v := 2) hx hb dX13_names_42 (by decide +kernel) ?_
    refine lv_goto (tgt := 47) hx hb dX13_names_43 (by decide +kernel) ?_
    exact W.iret hx hb hr (fun t ht hW => ⟨_, rfl, (by decide +kernel), ht⟩) (fun _ h => by cases h) dX13_names_47
  · refine lv_iload_n hx hb dX13_names_0 rfl (lv_at hl 0 rfl) ?_
    refine lv_if_eq (tgt := 9) hx hb dX13_names_1 (by decide +kernel) (fun c9 => absurd c9 (by decide +kernel)) (fun _ => ?_)
    refine lv_iload_n hx hb dX13_names_4 rfl (lv_at hl 0 rfl) ?_
    refine lv_iconst (v := 1) hx hb dX13_names_5 (by decide +kernel) ?_
    refine lv_icmp_ne (tgt := 13) hx hb dX13_names_6 (by decide +kernel) (fun _ => ?_) (fun c9 => absurd c9 (by decide +kernel))
    refine lv_iload_n hx hb dX13_names_13 rfl (lv_at hl 0 rfl) ?_
    refine lv_iconst (v := 5) hx hb dX13_names_14 (by decide +kernel) ?_
    refine lv_icmp_eq (tgt := 42) hx hb dX13_names_15 (by decide +kernel) (fun c9 => absurd c9 (by decide +kernel)) (fun _ => ?_)
    refine lv_iload_n hx hb dX13_names_18 rfl (lv_at hl 0 rfl) ?_
    refine lv_bipush (v := 6) hx hb dX13_names_19 (by decide +kernel) ?_
    refine lv_icmp_eq (tgt := 42) hx hb dX13_names_21 (by decide +kernel) (fun c9 => absurd c9 (by decide +kernel)) (fun _ => ?_)
    refine lv_iload_n hx hb dX13_names_24 rfl (lv_at hl 0 rfl) ?_
    refine lv_bipush (v := 7) hx hb dX13_names_25 (by decide +kernel) ?_
    refine lv_icmp_eq (tgt := 42) hx hb dX13_names_27 (by decide +kernel) (fun c9 => absurd c9 (by decide +kernel)) (fun _ => ?_)
    refine lv_iload_n hx hb dX13_names_30 rfl (lv_at hl 0 rfl) ?_
    refine lv_bipush (v := 9) hx hb dX13_names_31 (by decide +kernel) ?_
    refine lv_icmp_eq (tgt := 42) hx hb dX13_names_33 (by decide +kernel) (fun c9 => absurd c9 (by decide +kernel)) (fun _ => ?_)
    refine lv_iload_n hx hb dX13_names_36 rfl (lv_at hl 0 rfl) ?_
    refine lv_bipush (v := 12) hx hb dX13_names_37 (by decide +kernel) ?_
    refine lv_icmp_ne (tgt := 46) hx hb dX13_names_39 (by decide +kernel) (fun _ => ?_) (fun c9 => absurd c9 (by decide +kernel))
    refine lv_iconst (v := 1) hx hb dX13_names_46 (by decide +kernel) ?_
    exact W.iret hx hb hr (fun t ht hW => ⟨_, rfl, (by decide +kernel), ht⟩) (fun _ h => by cases h) dX13_names_47
  · refine lv_iload_n hx hb dX13_names_0 rfl (lv_at hl 0 rfl) ?_
    refine lv_if_eq (tgt := 9) hx hb dX13_names_1 (by decide +kernel) (fun c9 => absurd c9 (by decide +kernel)) (fun _ => ?_)
    refine lv_iload_n hx hb dX13_names_4 rfl (lv_at hl 0 rfl) ?_
    refine lv_iconst (v := 1) hx hb dX13_names_5 (by decide +kernel) ?_
    refine lv_icmp_ne (tgt := 13) hx hb dX13_names_6 (by decide +kernel) (fun _ => ?_) (fun c9 => absurd c9 (by decide +kernel))
    refine lv_iload_n hx hb dX13_names_13 rfl (lv_at hl 0 rfl) ?_
    refine lv_iconst (v := 5) hx hb dX13_names_14 (by decide +kernel) ?_
    refine lv_icmp_eq (tgt := 42) hx hb dX13_names_15 (by decide +kernel) (fun c9 => absurd c9 (by decide +kernel)) (fun _ => ?_)
    refine lv_iload_n hx hb dX13_names_18 rfl (lv_at hl 0 rfl) ?_
    refine lv_bipush (v := 6) hx hb dX13_names_19 (by decide +kernel) ?_
    refine lv_icmp_eq (tgt := 42) hx hb dX13_names_21 (by decide +kernel) (fun c9 => absurd c9 (by decide +kernel)) (fun _ => ?_)
    refine lv_iload_n hx hb dX13_names_24 rfl (lv_at hl 0 rfl) ?_
    refine lv_bipush (v := 7) hx hb dX13_names_25 (by decide +kernel) ?_
    refine lv_icmp_eq (tgt := 42) hx hb dX13_names_27 (by decide +kernel) (fun c9 => absurd c9 (by decide +kernel)) (fun _ => ?_)
    refine lv_iload_n hx hb dX13_names_30 rfl (lv_at hl 0 rfl) ?_
    refine lv_bipush (v := 9) hx hb dX13_names_31 (by decide +kernel) ?_
    refine lv_icmp_eq (tgt := 42) hx hb dX13_names_33 (by decide +kernel) (fun c9 => absurd c9 (by decide +kernel)) (fun _ => ?_)
    refine lv_iload_n hx hb dX13_names_36 rfl (lv_at hl 0 rfl) ?_
    refine lv_bipush (v := 12) hx hb dX13_names_37 (by decide +kernel) ?_
    refine lv_icmp_ne (tgt := 46) hx hb dX13_names_39 (by decide +kernel) (fun _ => ?_) (fun c9 => absurd c9 (by decide +kernel))
    refine lv_iconst (v := 1) hx hb dX13_names_46 (by decide +kernel) ?_
    exact W.iret hx hb hr (fun t ht hW => ⟨_, rfl, (by decide +kernel), ht⟩) (fun _ h => by cases h) dX13_names_47
  · refine lv_iload_n hx hb dX13_names_0 rfl (lv_at hl 0 rfl) ?_
    refine lv_if_eq (tgt := 9) hx hb dX13_names_1 (by decide +kernel) (fun c9 => absurd c9 (by decide +kernel)) (fun _ => ?_)
    refine lv_iload_n hx hb dX13_names_4 rfl (lv_at hl 0 rfl) ?_
    refine lv_iconst (v := 1) hx hb dX13_names_5 (by decide +kernel) ?_
    refine lv_icmp_ne (tgt := 13) hx hb dX13_names_6 (by decide +kernel) (fun _ => ?_) (fun c9 => absurd c9 (by decide +kernel))
    refine lv_iload_n hx hb dX13_names_13 rfl (lv_at hl 0 rfl) ?_
    refine lv_iconst (v := 5) hx hb dX13_names_14 (by decide +kernel) ?_
    refine lv_icmp_eq (tgt := 42) hx hb dX13_names_15 (by decide +kernel) (fun c9 => absurd c9 (by decide +kernel)) (fun _ => ?_)
    refine lv_iload_n hx hb dX13_names_18 rfl (lv_at hl 0 rfl) ?_
    refine lv_bipush (v := 6) hx hb dX13_names_19 (by decide +kernel) ?_
    refine lv_icmp_eq (tgt := 42) hx hb dX13_names_21 (by decide +kernel) (fun c9 => absurd c9 (by decide +kernel)) (fun _ => ?_)
    refine lv_iload_n hx hb dX13_names_24 rfl (lv_at hl 0 rfl) ?_
    refine lv_bipush (v := 7) hx hb dX13_names_25 (by decide +kernel) ?_
    refine lv_icmp_eq (tgt := 42) hx hb dX13_names_27 (by decide +kernel) (fun c9 => absurd c9 (by decide +kernel)) (fun _ => ?_)
    refine lv_iload_n hx hb dX13_names_30 rfl (lv_at hl 0 rfl) ?_
    refine lv_bipush (v := 9) hx hb dX13_names_31 (by decide +kernel) ?_
    refine lv_icmp_eq (tgt := 42) hx hb dX13_names_33 (by decide +kernel) (fun c9 => absurd c9 (by decide +kernel)) (fun _ => ?_)
    refine lv_iload_n hx hb dX13_names_36 rfl (lv_at hl 0 rfl) ?_
    refine lv_bipush (v := 12) hx hb dX13_names_37 (by decide +kernel) ?_
    refine lv_icmp_ne (tgt := 46) hx hb dX13_names_39 (by decide +kernel) (fun c9 => absurd c9 (by decide +kernel)) (fun _ => ?_)
    refine lv_iconst (v := 2) hx hb dX13_names_42 (by decide +kernel) ?_
    refine lv_goto (tgt := 47) hx hb dX13_names_43 (by decide +kernel) ?_
    exact W.iret hx hb hr (fun t ht hW => ⟨_, rfl, (by decide +kernel), ht⟩) (fun _ h => by cases h) dX13_names_47
theorem dX13_isNumber_0 : decode cX13_isNumber 0 = .ok (.iload_n 0, 1) := by decide +kernel
theorem dX13_isNumber_1 : decode cX13_isNumber 1 = .ok (.iconst 3, 1) := by decide +kernel
theorem dX13_isNumber_10 : decode cX13_isNumber 10 = .ok (.ldc2_w 179, 3) := by decide +kernel
theorem dX13_isNumber_13 : decode cX13_isNumber 13 = .ok (.invokestatic 175, 3) := by decide +kernel
theorem dX13_isNumber_16 : decode cX13_isNumber 16 = .ok (.goto 50, 3) := by decide +kernel
theorem dX13_isNumber_19 : decode cX13_isNumber 19 = .ok (.iload_n 0, 1) := by decide +kernel
theorem dX13_isNumber_2 : decode cX13_isNumber 2 = .ok (.if_icmp .ne 17, 3) := by decide +kernel
theorem dX13_isNumber_20 : decode cX13_isNumber 20 = .ok (.bipush 8, 2) := by decide +kernel
theorem dX13_isNumber_22 : decode cX13_isNumber 22 = .ok (.if_icmp .ne 15, 3) := by decide +kernel
theorem dX13_isNumber_25 : decode cX13_isNumber 25 = .ok (.iload_n 1, 1) := by decide +kernel
theorem dX13_isNumber_26 : decode cX13_isNumber 26 = .ok (.i2l, 1) := by decide +kernel
theorem dX13_isNumber_27 : decode cX13_isNumber 27 = .ok (.lconst 0, 1) := by decide +kernel
theorem dX13_isNumber_28 : decode cX13_isNumber 28 = .ok (.ldc2_w 186, 3) := by decide +kernel
theorem dX13_isNumber_31 : decode cX13_isNumber 31 = .ok (.invokestatic 175, 3) := by decide +kernel
theorem dX13_isNumber_34 : decode cX13_isNumber 34 = .ok (.goto 32, 3) := by decide +kernel
theorem dX13_isNumber_37 : decode cX13_isNumber 37 = .ok (.iload_n 0, 1) := by decide +kernel
theorem dX13_isNumber_38 : decode cX13_isNumber 38 = .ok (.bipush 12, 2) := by decide +kernel
theorem dX13_isNumber_40 : decode cX13_isNumber 40 = .ok (.if_icmp .ne 17, 3) := by decide +kernel
theorem dX13_isNumber_43 : decode cX13_isNumber 43 = .ok (.iload_n 1, 1) := by decide +kernel
theorem dX13_isNumber_44 : decode cX13_isNumber 44 = .ok (.i2l, 1) := by decide +kernel
theorem dX13_isNumber_45 : decode cX13_isNumber 45 = .ok (.ldc2_w 171, 3) := by decide +kernel
theorem dX13_isNumber_48 : decode cX13_isNumber 48 = .ok (.ldc2_w 173, 3) := by decide +kernel
theorem dX13_isNumber_5 : decode cX13_isNumber 5 = .ok (.iload_n 1, 1) := by decide +kernel
theorem dX13_isNumber_51 : decode cX13_isNumber 51 = .ok (.invokestatic 175, 3) := by decide +kernel
theorem dX13_isNumber_54 : decode cX13_isNumber 54 = .ok (.goto 12, 3) := by decide +kernel
theorem dX13_isNumber_57 : decode cX13_isNumber 57 = .ok (.iload_n 1, 1) := by decide +kernel
theorem dX13_isNumber_58 : decode cX13_isNumber 58 = .ok (.ifCond .ne 7, 3) := by decide +kernel
theorem dX13_isNumber_6 : decode cX13_isNumber 6 = .ok (.i2l, 1) := by decide +kernel
theorem dX13_isNumber_61 : decode cX13_isNumber 61 = .ok (.iconst 1, 1) := by decide +kernel
theorem dX13_isNumber_62 : decode cX13_isNumber 62 = .ok (.goto 4, 3) := by decide +kernel
theorem dX13_isNumber_65 : decode cX13_isNumber 65 = .ok (.iconst 0, 1) := by decide +kernel
theorem dX13_isNumber_66 : decode cX13_isNumber 66 = .ok (.ireturn, 1) := by decide +kernel
theorem dX13_isNumber_7 : decode cX13_isNumber 7 = .ok (.ldc2_w 208, 3) := by decide +kernel
set_option maxRecDepth 20000 in
theorem ggX13_isNumber_X13_in : GoodIn wsX13_isNumber wsX13_in := goodIn_r _ [9] rfl (by decide +kernel)
set_option maxRecDepth 20000 in
theorem gX13_isNumber_X13_in : GoodIn wsX13_isNumber (va_wsS RX13 175 yX13_in wsX13_in) := goodIn_app (goodIn_of _ (by decide +kernel)) ggX13_isNumber_X13_in
set_option maxHeartbeats 4000000 in
set_option maxRecDepth 100000 in
theorem c_X13_isNumber (l : Launch) (D : va_G) (T : Nat → ClassId) (x0 : Int32) (x1 : Int32) (hkx : 0 ≤ x0.toInt ∧ x0.toInt ≤ 12) : Met l yX13_isNumber wsX13_isNumber ({ frames := 1, cells := 0, slots := 0, locals := 25 }) (pR [.int x0, .int x1] D T []) (vp_Si (fun r => r = if (lsT (x0.toNatClampNeg)).toInt ≤ x1.toInt ∧ x1.toInt ≤ (msT (x0.toNatClampNeg)).toInt then 1 else 0)) 0 0 (fun _ => False) := by
  refine Met.ofW (cc := cX13_isNumber) (maxL := 2) (ret := (some .boolean)) (by decide +kernel) rfl ?_
  intro p e s m args below meth c s₁ B hml hv
  obtain ⟨rfl, hP, hE⟩ := hv
  have hx := B.exec
  have hb := B.bytes
  have hr := B.returns
  have hts := atoms_spec (ws := wsX13_isNumber) B.pre
  have hown : s.vm.findClass RX13 = some m.cls := findClass_of_methodNamed B.named
  have hlocks := B.notSynchronized
  have hP : va_P D vwCl [] s.heap := hP
  have hl := lv_entry ([.int x0, .int x1]) (n := 2) (Nat.le_of_ble_eq_true rfl)
  rw [lg_entry_eq]
  generalize (lg_sl ([.int x0, .int x1]) ++ List.replicate (2 - (lg_sl ([.int x0, .int x1])).length) Slot.unset).toArray = ls at hl ⊢
  have hl : lv_has ls 2 [(0, .int x0), (1, .int x1)] := hl
  rcases in13i (x := x0) (by omega) with rfl | rfl | rfl | rfl | rfl | rfl | rfl | rfl | rfl | rfl | rfl | rfl | rfl
  · have hl9 : (lsT (0 : Int32).toNatClampNeg).toInt = 0 := by decide
    have hm9 : (msT (0 : Int32).toNatClampNeg).toInt = 0 := by decide
    refine lv_iload_n hx hb dX13_isNumber_0 rfl (lv_at hl 0 rfl) ?_
    refine lv_iconst (v := 3) hx hb dX13_isNumber_1 (by decide +kernel) ?_
    refine lv_icmp_ne (tgt := 19) hx hb dX13_isNumber_2 (by decide +kernel) (fun _ => ?_) (fun c9 => absurd c9 (by decide +kernel))
    refine lv_iload_n hx hb dX13_isNumber_19 rfl (lv_at hl 0 rfl) ?_
    refine lv_bipush (v := 8) hx hb dX13_isNumber_20 (by decide +kernel) ?_
    refine lv_icmp_ne (tgt := 37) hx hb dX13_isNumber_22 (by decide +kernel) (fun _ => ?_) (fun c9 => absurd c9 (by decide +kernel))
    refine lv_iload_n hx hb dX13_isNumber_37 rfl (lv_at hl 0 rfl) ?_
    refine lv_bipush (v := 12) hx hb dX13_isNumber_38 (by decide +kernel) ?_
    refine lv_icmp_ne (tgt := 57) hx hb dX13_isNumber_40 (by decide +kernel) (fun _ => ?_) (fun c9 => absurd c9 (by decide +kernel))
    refine lv_iload_n hx hb dX13_isNumber_57 rfl (lv_at hl 1 rfl) ?_
    refine lv_if_ne (tgt := 65) hx hb dX13_isNumber_58 (by decide +kernel) (fun c_1 => ?_) (fun c_1 => ?_)
    · rw [fa_eq] at c_1
      try rw [ti_0] at c_1
      refine lv_iconst (v := 0) hx hb dX13_isNumber_65 (by decide +kernel) ?_
      exact W.zret hx hb hr rfl (fun t ht hW => ⟨_, rfl, (by exact (if_neg (by omega)).symm), ht⟩) (fun _ h => by cases h) dX13_isNumber_66
    · rw [fa_eq] at c_1
      try rw [ti_0] at c_1
      refine lv_iconst (v := 1) hx hb dX13_isNumber_61 (by decide +kernel) ?_
      refine lv_goto (tgt := 66) hx hb dX13_isNumber_62 (by decide +kernel) ?_
      exact W.zret hx hb hr rfl (fun t ht hW => ⟨_, rfl, (by exact (if_pos (by omega)).symm), ht⟩) (fun _ h => by cases h) dX13_isNumber_66
  · have hl9 : (lsT (1 : Int32).toNatClampNeg).toInt = 0 := by decide
    have hm9 : (msT (1 : Int32).toNatClampNeg).toInt = 0 := by decide
    refine lv_iload_n hx hb dX13_isNumber_0 rfl (lv_at hl 0 rfl) ?_
    refine lv_iconst (v := 3) hx hb dX13_isNumber_1 (by decide +kernel) ?_
    refine lv_icmp_ne (tgt := 19) hx hb dX13_isNumber_2 (by decide +kernel) (fun _ => ?_) (fun c9 => absurd c9 (by decide +kernel))
    refine lv_iload_n hx hb dX13_isNumber_19 rfl (lv_at hl 0 rfl) ?_
    refine lv_bipush (v := 8) hx hb dX13_isNumber_20 (by decide +kernel) ?_
    refine lv_icmp_ne (tgt := 37) hx hb dX13_isNumber_22 (by decide +kernel) (fun _ => ?_) (fun c9 => absurd c9 (by decide +kernel))
    refine lv_iload_n hx hb dX13_isNumber_37 rfl (lv_at hl 0 rfl) ?_
    refine lv_bipush (v := 12) hx hb dX13_isNumber_38 (by decide +kernel) ?_
    refine lv_icmp_ne (tgt := 57) hx hb dX13_isNumber_40 (by decide +kernel) (fun _ => ?_) (fun c9 => absurd c9 (by decide +kernel))
    refine lv_iload_n hx hb dX13_isNumber_57 rfl (lv_at hl 1 rfl) ?_
    refine lv_if_ne (tgt := 65) hx hb dX13_isNumber_58 (by decide +kernel) (fun c_2 => ?_) (fun c_2 => ?_)
    · rw [fa_eq] at c_2
      try rw [ti_0] at c_2
      refine lv_iconst (v := 0) hx hb dX13_isNumber_65 (by decide +kernel) ?_
      exact W.zret hx hb hr rfl (fun t ht hW => ⟨_, rfl, (by exact (if_neg (by omega)).symm), ht⟩) (fun _ h => by cases h) dX13_isNumber_66
    · rw [fa_eq] at c_2
      try rw [ti_0] at c_2
      refine lv_iconst (v := 1) hx hb dX13_isNumber_61 (by decide +kernel) ?_
      refine lv_goto (tgt := 66) hx hb dX13_isNumber_62 (by decide +kernel) ?_
      exact W.zret hx hb hr rfl (fun t ht hW => ⟨_, rfl, (by exact (if_pos (by omega)).symm), ht⟩) (fun _ h => by cases h) dX13_isNumber_66
  · have hl9 : (lsT (2 : Int32).toNatClampNeg).toInt = 0 := by decide
    have hm9 : (msT (2 : Int32).toNatClampNeg).toInt = 0 := by decide
    refine lv_iload_n hx hb dX13_isNumber_0 rfl (lv_at hl 0 rfl) ?_
    refine lv_iconst (v := 3) hx hb dX13_isNumber_1 (by decide +kernel) ?_
    refine lv_icmp_ne (tgt := 19) hx hb dX13_isNumber_2 (by decide +kernel) (fun _ => ?_) (fun c9 => absurd c9 (by decide +kernel))
    refine lv_iload_n hx hb dX13_isNumber_19 rfl (lv_at hl 0 rfl) ?_
    refine lv_bipush (v := 8) hx hb dX13_isNumber_20 (by decide +kernel) ?_
    refine lv_icmp_ne (tgt := 37) hx hb dX13_isNumber_22 (by decide +kernel) (fun _ => ?_) (fun c9 => absurd c9 (by decide +kernel))
    refine lv_iload_n hx hb dX13_isNumber_37 rfl (lv_at hl 0 rfl) ?_
    refine lv_bipush (v := 12) hx hb dX13_isNumber_38 (by decide +kernel) ?_
    refine lv_icmp_ne (tgt := 57) hx hb dX13_isNumber_40 (by decide +kernel) (fun _ => ?_) (fun c9 => absurd c9 (by decide +kernel))
    refine lv_iload_n hx hb dX13_isNumber_57 rfl (lv_at hl 1 rfl) ?_
    refine lv_if_ne (tgt := 65) hx hb dX13_isNumber_58 (by decide +kernel) (fun c_3 => ?_) (fun c_3 => ?_)
    · rw [fa_eq] at c_3
      try rw [ti_0] at c_3
      refine lv_iconst (v := 0) hx hb dX13_isNumber_65 (by decide +kernel) ?_
      exact W.zret hx hb hr rfl (fun t ht hW => ⟨_, rfl, (by exact (if_neg (by omega)).symm), ht⟩) (fun _ h => by cases h) dX13_isNumber_66
    · rw [fa_eq] at c_3
      try rw [ti_0] at c_3
      refine lv_iconst (v := 1) hx hb dX13_isNumber_61 (by decide +kernel) ?_
      refine lv_goto (tgt := 66) hx hb dX13_isNumber_62 (by decide +kernel) ?_
      exact W.zret hx hb hr rfl (fun t ht hW => ⟨_, rfl, (by exact (if_pos (by omega)).symm), ht⟩) (fun _ h => by cases h) dX13_isNumber_66
  · have hl9 : (lsT (3 : Int32).toNatClampNeg).toInt = -9 := by decide
    have hm9 : (msT (3 : Int32).toNatClampNeg).toInt = 9 := by decide
    refine lv_iload_n hx hb dX13_isNumber_0 rfl (lv_at hl 0 rfl) ?_
    refine lv_iconst (v := 3) hx hb dX13_isNumber_1 (by decide +kernel) ?_
    refine lv_icmp_ne (tgt := 19) hx hb dX13_isNumber_2 (by decide +kernel) (fun c9 => absurd c9 (by decide +kernel)) (fun _ => ?_)
    refine lv_iload_n hx hb dX13_isNumber_5 rfl (lv_at hl 1 rfl) ?_
    refine lv_i2l hx hb dX13_isNumber_6 rfl ?_
    refine lv_ldc2 (v := (-9)) hx hb hown (hts (.constantLong RX13 208 (-9)) (List.mem_of_getElem? (i := 1) rfl)) dX13_isNumber_7 ?_
    refine lv_ldc2 (v := 9) hx hb hown (hts (.constantLong RX13 179 (9)) (List.mem_of_getElem? (i := 2) rfl)) dX13_isNumber_10 ?_
    refine vp_callSi (W.runS (As := [.long (x1.toInt64), .long (-9), .long 9]) (rest := []) ⟨hx, hb, hml, hown, hts⟩ (c_X13_in l D T (x1.toInt64) (-9) 9 x1.toInt (-9) 9 ((Int32.toInt_toInt64 _).trans rfl) (by decide +kernel) (by decide +kernel)) (va_cwS 3 hts gX13_isNumber_X13_in rfl rfl rfl hs_X13_in ⟨Nat.le_of_ble_eq_true rfl, Nat.le_of_ble_eq_true rfl⟩) (pR_S hP hE [] rfl) rfl rfl hl.1 rfl (lv_room (Nat.le_of_ble_eq_true rfl)) dX13_isNumber_13 ⟨Nat.le_of_ble_eq_true rfl, Nat.le_of_ble_eq_true rfl⟩) (fun r_4 hr_4 => ?_)
    rcases bool_post hr_4 with ⟨c_5, rfl⟩ | ⟨c_5, rfl⟩
    · refine lv_goto (tgt := 66) hx hb dX13_isNumber_16 (by decide +kernel) ?_
      exact W.zret hx hb hr rfl (fun t ht hW => ⟨_, rfl, (by exact (if_pos (by omega)).symm), ht⟩) (fun _ h => by cases h) dX13_isNumber_66
    · refine lv_goto (tgt := 66) hx hb dX13_isNumber_16 (by decide +kernel) ?_
      exact W.zret hx hb hr rfl (fun t ht hW => ⟨_, rfl, (by exact (if_neg (by omega)).symm), ht⟩) (fun _ h => by cases h) dX13_isNumber_66
  · have hl9 : (lsT (4 : Int32).toNatClampNeg).toInt = 0 := by decide
    have hm9 : (msT (4 : Int32).toNatClampNeg).toInt = 0 := by decide
    refine lv_iload_n hx hb dX13_isNumber_0 rfl (lv_at hl 0 rfl) ?_
    refine lv_iconst (v := 3) hx hb dX13_isNumber_1 (by decide +kernel) ?_
    refine lv_icmp_ne (tgt := 19) hx hb dX13_isNumber_2 (by decide +kernel) (fun _ => ?_) (fun c9 => absurd c9 (by decide +kernel))
    refine lv_iload_n hx hb dX13_isNumber_19 rfl (lv_at hl 0 rfl) ?_
    refine lv_bipush (v := 8) hx hb dX13_isNumber_20 (by decide +kernel) ?_
    refine lv_icmp_ne (tgt := 37) hx hb dX13_isNumber_22 (by decide +kernel) (fun _ => ?_) (fun c9 => absurd c9 (by decide +kernel))
    refine lv_iload_n hx hb dX13_isNumber_37 rfl (lv_at hl 0 rfl) ?_
    refine lv_bipush (v := 12) hx hb dX13_isNumber_38 (by decide +kernel) ?_
    refine lv_icmp_ne (tgt := 57) hx hb dX13_isNumber_40 (by decide +kernel) (fun _ => ?_) (fun c9 => absurd c9 (by decide +kernel))
    refine lv_iload_n hx hb dX13_isNumber_57 rfl (lv_at hl 1 rfl) ?_
    refine lv_if_ne (tgt := 65) hx hb dX13_isNumber_58 (by decide +kernel) (fun c_6 => ?_) (fun c_6 => ?_)
    · rw [fa_eq] at c_6
      try rw [ti_0] at c_6
      refine lv_iconst (v := 0) hx hb dX13_isNumber_65 (by decide +kernel) ?_
      exact W.zret hx hb hr rfl (fun t ht hW => ⟨_, rfl, (by exact (if_neg (by omega)).symm), ht⟩) (fun _ h => by cases h) dX13_isNumber_66
    · rw [fa_eq] at c_6
      try rw [ti_0] at c_6
      refine lv_iconst (v := 1) hx hb dX13_isNumber_61 (by decide +kernel) ?_
      refine lv_goto (tgt := 66) hx hb dX13_isNumber_62 (by decide +kernel) ?_
      exact W.zret hx hb hr rfl (fun t ht hW => ⟨_, rfl, (by exact (if_pos (by omega)).symm), ht⟩) (fun _ h => by cases h) dX13_isNumber_66
  · have hl9 : (lsT (5 : Int32).toNatClampNeg).toInt = 0 := by decide
    have hm9 : (msT (5 : Int32).toNatClampNeg).toInt = 0 := by decide
    refine lv_iload_n hx hb dX13_isNumber_0 rfl (lv_at hl 0 rfl) ?_
    refine lv_iconst (v := 3) hx hb dX13_isNumber_1 (by decide +kernel) ?_
    refine lv_icmp_ne (tgt := 19) hx hb dX13_isNumber_2 (by decide +kernel) (fun _ => ?_) (fun c9 => absurd c9 (by decide +kernel))
    refine lv_iload_n hx hb dX13_isNumber_19 rfl (lv_at hl 0 rfl) ?_
    refine lv_bipush (v := 8) hx hb dX13_isNumber_20 (by decide +kernel) ?_
    refine lv_icmp_ne (tgt := 37) hx hb dX13_isNumber_22 (by decide +kernel) (fun _ => ?_) (fun c9 => absurd c9 (by decide +kernel))
    refine lv_iload_n hx hb dX13_isNumber_37 rfl (lv_at hl 0 rfl) ?_
    refine lv_bipush (v := 12) hx hb dX13_isNumber_38 (by decide +kernel) ?_
    refine lv_icmp_ne (tgt := 57) hx hb dX13_isNumber_40 (by decide +kernel) (fun _ => ?_) (fun c9 => absurd c9 (by decide +kernel))
    refine lv_iload_n hx hb dX13_isNumber_57 rfl (lv_at hl 1 rfl) ?_
    refine lv_if_ne (tgt := 65) hx hb dX13_isNumber_58 (by decide +kernel) (fun c_7 => ?_) (fun c_7 => ?_)
    · rw [fa_eq] at c_7
      try rw [ti_0] at c_7
      refine lv_iconst (v := 0) hx hb dX13_isNumber_65 (by decide +kernel) ?_
      exact W.zret hx hb hr rfl (fun t ht hW => ⟨_, rfl, (by exact (if_neg (by omega)).symm), ht⟩) (fun _ h => by cases h) dX13_isNumber_66
    · rw [fa_eq] at c_7
      try rw [ti_0] at c_7
      refine lv_iconst (v := 1) hx hb dX13_isNumber_61 (by decide +kernel) ?_
      refine lv_goto (tgt := 66) hx hb dX13_isNumber_62 (by decide +kernel) ?_
      exact W.zret hx hb hr rfl (fun t ht hW => ⟨_, rfl, (by exact (if_pos (by omega)).symm), ht⟩) (fun _ h => by cases h) dX13_isNumber_66
  · have hl9 : (lsT (6 : Int32).toNatClampNeg).toInt = 0 := by decide
    have hm9 : (msT (6 : Int32).toNatClampNeg).toInt = 0 := by decide
    refine lv_iload_n hx hb dX13_isNumber_0 rfl (lv_at hl 0 rfl) ?_
    refine lv_iconst (v := 3) hx hb dX13_isNumber_1 (by decide +kernel) ?_
    refine lv_icmp_ne (tgt := 19) hx hb dX13_isNumber_2 (by decide +kernel) (fun _ => ?_) (fun c9 => absurd c9 (by decide +kernel))
    refine lv_iload_n hx hb dX13_isNumber_19 rfl (lv_at hl 0 rfl) ?_
    refine lv_bipush (v := 8) hx hb dX13_isNumber_20 (by decide +kernel) ?_
    refine lv_icmp_ne (tgt := 37) hx hb dX13_isNumber_22 (by decide +kernel) (fun _ => ?_) (fun c9 => absurd c9 (by decide +kernel))
    refine lv_iload_n hx hb dX13_isNumber_37 rfl (lv_at hl 0 rfl) ?_
    refine lv_bipush (v := 12) hx hb dX13_isNumber_38 (by decide +kernel) ?_
    refine lv_icmp_ne (tgt := 57) hx hb dX13_isNumber_40 (by decide +kernel) (fun _ => ?_) (fun c9 => absurd c9 (by decide +kernel))
    refine lv_iload_n hx hb dX13_isNumber_57 rfl (lv_at hl 1 rfl) ?_
    refine lv_if_ne (tgt := 65) hx hb dX13_isNumber_58 (by decide +kernel) (fun c_8 => ?_) (fun c_8 => ?_)
    · rw [fa_eq] at c_8
      try rw [ti_0] at c_8
      refine lv_iconst (v := 0) hx hb dX13_isNumber_65 (by decide +kernel) ?_
      exact W.zret hx hb hr rfl (fun t ht hW => ⟨_, rfl, (by exact (if_neg (by omega)).symm), ht⟩) (fun _ h => by cases h) dX13_isNumber_66
    · rw [fa_eq] at c_8
      try rw [ti_0] at c_8
      refine lv_iconst (v := 1) hx hb dX13_isNumber_61 (by decide +kernel) ?_
      refine lv_goto (tgt := 66) hx hb dX13_isNumber_62 (by decide +kernel) ?_
      exact W.zret hx hb hr rfl (fun t ht hW => ⟨_, rfl, (by exact (if_pos (by omega)).symm), ht⟩) (fun _ h => by cases h) dX13_isNumber_66
  · have hl9 : (lsT (7 : Int32).toNatClampNeg).toInt = 0 := by decide
    have hm9 : (msT (7 : Int32).toNatClampNeg).toInt = 0 := by decide
    refine lv_iload_n hx hb dX13_isNumber_0 rfl (lv_at hl 0 rfl) ?_
    refine lv_iconst (v := 3) hx hb dX13_isNumber_1 (by decide +kernel) ?_
    refine lv_icmp_ne (tgt := 19) hx hb dX13_isNumber_2 (by decide +kernel) (fun _ => ?_) (fun c9 => absurd c9 (by decide +kernel))
    refine lv_iload_n hx hb dX13_isNumber_19 rfl (lv_at hl 0 rfl) ?_
    refine lv_bipush (v := 8) hx hb dX13_isNumber_20 (by decide +kernel) ?_
    refine lv_icmp_ne (tgt := 37) hx hb dX13_isNumber_22 (by decide +kernel) (fun _ => ?_) (fun c9 => absurd c9 (by decide +kernel))
    refine lv_iload_n hx hb dX13_isNumber_37 rfl (lv_at hl 0 rfl) ?_
    refine lv_bipush (v := 12) hx hb dX13_isNumber_38 (by decide +kernel) ?_
    refine lv_icmp_ne (tgt := 57) hx hb dX13_isNumber_40 (by decide +kernel) (fun _ => ?_) (fun c9 => absurd c9 (by decide +kernel))
    refine lv_iload_n hx hb dX13_isNumber_57 rfl (lv_at hl 1 rfl) ?_
    refine lv_if_ne (tgt := 65) hx hb dX13_isNumber_58 (by decide +kernel) (fun c_9 => ?_) (fun c_9 => ?_)
    · rw [fa_eq] at c_9
      try rw [ti_0] at c_9
      refine lv_iconst (v := 0) hx hb dX13_isNumber_65 (by decide +kernel) ?_
      exact W.zret hx hb hr rfl (fun t ht hW => ⟨_, rfl, (by exact (if_neg (by omega)).symm), ht⟩) (fun _ h => by cases h) dX13_isNumber_66
    · rw [fa_eq] at c_9
      try rw [ti_0] at c_9
      refine lv_iconst (v := 1) hx hb dX13_isNumber_61 (by decide +kernel) ?_
      refine lv_goto (tgt := 66) hx hb dX13_isNumber_62 (by decide +kernel) ?_
      exact W.zret hx hb hr rfl (fun t ht hW => ⟨_, rfl, (by exact (if_pos (by omega)).symm), ht⟩) (fun _ h => by cases h) dX13_isNumber_66
  · have hl9 : (lsT (8 : Int32).toNatClampNeg).toInt = 0 := by decide
    have hm9 : (msT (8 : Int32).toNatClampNeg).toInt = 6 := by decide
    refine lv_iload_n hx hb dX13_isNumber_0 rfl (lv_at hl 0 rfl) ?_
    refine lv_iconst (v := 3) hx hb dX13_isNumber_1 (by decide +kernel) ?_
    refine lv_icmp_ne (tgt := 19) hx hb dX13_isNumber_2 (by decide +kernel) (fun _ => ?_) (fun c9 => absurd c9 (by decide +kernel))
    refine lv_iload_n hx hb dX13_isNumber_19 rfl (lv_at hl 0 rfl) ?_
    refine lv_bipush (v := 8) hx hb dX13_isNumber_20 (by decide +kernel) ?_
    refine lv_icmp_ne (tgt := 37) hx hb dX13_isNumber_22 (by decide +kernel) (fun c9 => absurd c9 (by decide +kernel)) (fun _ => ?_)
    refine lv_iload_n hx hb dX13_isNumber_25 rfl (lv_at hl 1 rfl) ?_
    refine lv_i2l hx hb dX13_isNumber_26 rfl ?_
    refine lv_lconst (v := 0) hx hb dX13_isNumber_27 (by decide +kernel) ?_
    refine lv_ldc2 (v := 6) hx hb hown (hts (.constantLong RX13 186 (6)) (List.mem_of_getElem? (i := 3) rfl)) dX13_isNumber_28 ?_
    refine vp_callSi (W.runS (As := [.long (x1.toInt64), .long 0, .long 6]) (rest := []) ⟨hx, hb, hml, hown, hts⟩ (c_X13_in l D T (x1.toInt64) 0 6 x1.toInt 0 6 ((Int32.toInt_toInt64 _).trans rfl) (by decide +kernel) (by decide +kernel)) (va_cwS 3 hts gX13_isNumber_X13_in rfl rfl rfl hs_X13_in ⟨Nat.le_of_ble_eq_true rfl, Nat.le_of_ble_eq_true rfl⟩) (pR_S hP hE [] rfl) rfl rfl hl.1 rfl (lv_room (Nat.le_of_ble_eq_true rfl)) dX13_isNumber_31 ⟨Nat.le_of_ble_eq_true rfl, Nat.le_of_ble_eq_true rfl⟩) (fun r_10 hr_10 => ?_)
    rcases bool_post hr_10 with ⟨c_11, rfl⟩ | ⟨c_11, rfl⟩
    · refine lv_goto (tgt := 66) hx hb dX13_isNumber_34 (by decide +kernel) ?_
      exact W.zret hx hb hr rfl (fun t ht hW => ⟨_, rfl, (by exact (if_pos (by omega)).symm), ht⟩) (fun _ h => by cases h) dX13_isNumber_66
    · refine lv_goto (tgt := 66) hx hb dX13_isNumber_34 (by decide +kernel) ?_
      exact W.zret hx hb hr rfl (fun t ht hW => ⟨_, rfl, (by exact (if_neg (by omega)).symm), ht⟩) (fun _ h => by cases h) dX13_isNumber_66
  · have hl9 : (lsT (9 : Int32).toNatClampNeg).toInt = 0 := by decide
    have hm9 : (msT (9 : Int32).toNatClampNeg).toInt = 0 := by decide
    refine lv_iload_n hx hb dX13_isNumber_0 rfl (lv_at hl 0 rfl) ?_
    refine lv_iconst (v := 3) hx hb dX13_isNumber_1 (by decide +kernel) ?_
    refine lv_icmp_ne (tgt := 19) hx hb dX13_isNumber_2 (by decide +kernel) (fun _ => ?_) (fun c9 => absurd c9 (by decide +kernel))
    refine lv_iload_n hx hb dX13_isNumber_19 rfl (lv_at hl 0 rfl) ?_
    refine lv_bipush (v := 8) hx hb dX13_isNumber_20 (by decide +kernel) ?_
    refine lv_icmp_ne (tgt := 37) hx hb dX13_isNumber_22 (by decide +kernel) (fun _ => ?_) (fun c9 => absurd c9 (by decide +kernel))
    refine lv_iload_n hx hb dX13_isNumber_37 rfl (lv_at hl 0 rfl) ?_
    refine lv_bipush (v := 12) hx hb dX13_isNumber_38 (by decide +kernel) ?_
    refine lv_icmp_ne (tgt := 57) hx hb dX13_isNumber_40 (by decide +kernel) (fun _ => ?_) (fun c9 => absurd c9 (by decide +kernel))
    refine lv_iload_n hx hb dX13_isNumber_57 rfl (lv_at hl 1 rfl) ?_
    refine lv_if_ne (tgt := 65) hx hb dX13_isNumber_58 (by decide +kernel) (fun c_12 => ?_) (fun c_12 => ?_)
    · rw [fa_eq] at c_12
      try rw [ti_0] at c_12
      refine lv_iconst (v := 0) hx hb dX13_isNumber_65 (by decide +kernel) ?_
      exact W.zret hx hb hr rfl (fun t ht hW => ⟨_, rfl, (by exact (if_neg (by omega)).symm), ht⟩) (fun _ h => by cases h) dX13_isNumber_66
    · rw [fa_eq] at c_12
      try rw [ti_0] at c_12
      refine lv_iconst (v := 1) hx hb dX13_isNumber_61 (by decide +kernel) ?_
      refine lv_goto (tgt := 66) hx hb dX13_isNumber_62 (by decide +kernel) ?_
      exact W.zret hx hb hr rfl (fun t ht hW => ⟨_, rfl, (by exact (if_pos (by omega)).symm), ht⟩) (fun _ h => by cases h) dX13_isNumber_66
  · have hl9 : (lsT (10 : Int32).toNatClampNeg).toInt = 0 := by decide
    have hm9 : (msT (10 : Int32).toNatClampNeg).toInt = 0 := by decide
    refine lv_iload_n hx hb dX13_isNumber_0 rfl (lv_at hl 0 rfl) ?_
    refine lv_iconst (v := 3) hx hb dX13_isNumber_1 (by decide +kernel) ?_
    refine lv_icmp_ne (tgt := 19) hx hb dX13_isNumber_2 (by decide +kernel) (fun _ => ?_) (fun c9 => absurd c9 (by decide +kernel))
    refine lv_iload_n hx hb dX13_isNumber_19 rfl (lv_at hl 0 rfl) ?_
    refine lv_bipush (v := 8) hx hb dX13_isNumber_20 (by decide +kernel) ?_
    refine lv_icmp_ne (tgt := 37) hx hb dX13_isNumber_22 (by decide +kernel) (fun _ => ?_) (fun c9 => absurd c9 (by decide +kernel))
    refine lv_iload_n hx hb dX13_isNumber_37 rfl (lv_at hl 0 rfl) ?_
    refine lv_bipush (v := 12) hx hb dX13_isNumber_38 (by decide +kernel) ?_
    refine lv_icmp_ne (tgt := 57) hx hb dX13_isNumber_40 (by decide +kernel) (fun _ => ?_) (fun c9 => absurd c9 (by decide +kernel))
    refine lv_iload_n hx hb dX13_isNumber_57 rfl (lv_at hl 1 rfl) ?_
    refine lv_if_ne (tgt := 65) hx hb dX13_isNumber_58 (by decide +kernel) (fun c_13 => ?_) (fun c_13 => ?_)
    · rw [fa_eq] at c_13
      try rw [ti_0] at c_13
      refine lv_iconst (v := 0) hx hb dX13_isNumber_65 (by decide +kernel) ?_
      exact W.zret hx hb hr rfl (fun t ht hW => ⟨_, rfl, (by exact (if_neg (by omega)).symm), ht⟩) (fun _ h => by cases h) dX13_isNumber_66
    · rw [fa_eq] at c_13
      try rw [ti_0] at c_13
      refine lv_iconst (v := 1) hx hb dX13_isNumber_61 (by decide +kernel) ?_
      refine lv_goto (tgt := 66) hx hb dX13_isNumber_62 (by decide +kernel) ?_
      exact W.zret hx hb hr rfl (fun t ht hW => ⟨_, rfl, (by exact (if_pos (by omega)).symm), ht⟩) (fun _ h => by cases h) dX13_isNumber_66
  · have hl9 : (lsT (11 : Int32).toNatClampNeg).toInt = 0 := by decide
    have hm9 : (msT (11 : Int32).toNatClampNeg).toInt = 0 := by decide
    refine lv_iload_n hx hb dX13_isNumber_0 rfl (lv_at hl 0 rfl) ?_
    refine lv_iconst (v := 3) hx hb dX13_isNumber_1 (by decide +kernel) ?_
    refine lv_icmp_ne (tgt := 19) hx hb dX13_isNumber_2 (by decide +kernel) (fun _ => ?_) (fun c9 => absurd c9 (by decide +kernel))
    refine lv_iload_n hx hb dX13_isNumber_19 rfl (lv_at hl 0 rfl) ?_
    refine lv_bipush (v := 8) hx hb dX13_isNumber_20 (by decide +kernel) ?_
    refine lv_icmp_ne (tgt := 37) hx hb dX13_isNumber_22 (by decide +kernel) (fun _ => ?_) (fun c9 => absurd c9 (by decide +kernel))
    refine lv_iload_n hx hb dX13_isNumber_37 rfl (lv_at hl 0 rfl) ?_
    refine lv_bipush (v := 12) hx hb dX13_isNumber_38 (by decide +kernel) ?_
    refine lv_icmp_ne (tgt := 57) hx hb dX13_isNumber_40 (by decide +kernel) (fun _ => ?_) (fun c9 => absurd c9 (by decide +kernel))
    refine lv_iload_n hx hb dX13_isNumber_57 rfl (lv_at hl 1 rfl) ?_
    refine lv_if_ne (tgt := 65) hx hb dX13_isNumber_58 (by decide +kernel) (fun c_14 => ?_) (fun c_14 => ?_)
    · rw [fa_eq] at c_14
      try rw [ti_0] at c_14
      refine lv_iconst (v := 0) hx hb dX13_isNumber_65 (by decide +kernel) ?_
      exact W.zret hx hb hr rfl (fun t ht hW => ⟨_, rfl, (by exact (if_neg (by omega)).symm), ht⟩) (fun _ h => by cases h) dX13_isNumber_66
    · rw [fa_eq] at c_14
      try rw [ti_0] at c_14
      refine lv_iconst (v := 1) hx hb dX13_isNumber_61 (by decide +kernel) ?_
      refine lv_goto (tgt := 66) hx hb dX13_isNumber_62 (by decide +kernel) ?_
      exact W.zret hx hb hr rfl (fun t ht hW => ⟨_, rfl, (by exact (if_pos (by omega)).symm), ht⟩) (fun _ h => by cases h) dX13_isNumber_66
  · have hl9 : (lsT (12 : Int32).toNatClampNeg).toInt = -99 := by decide
    have hm9 : (msT (12 : Int32).toNatClampNeg).toInt = 99 := by decide
    refine lv_iload_n hx hb dX13_isNumber_0 rfl (lv_at hl 0 rfl) ?_
    refine lv_iconst (v := 3) hx hb dX13_isNumber_1 (by decide +kernel) ?_
    refine lv_icmp_ne (tgt := 19) hx hb dX13_isNumber_2 (by decide +kernel) (fun _ => ?_) (fun c9 => absurd c9 (by decide +kernel))
    refine lv_iload_n hx hb dX13_isNumber_19 rfl (lv_at hl 0 rfl) ?_
    refine lv_bipush (v := 8) hx hb dX13_isNumber_20 (by decide +kernel) ?_
    refine lv_icmp_ne (tgt := 37) hx hb dX13_isNumber_22 (by decide +kernel) (fun _ => ?_) (fun c9 => absurd c9 (by decide +kernel))
    refine lv_iload_n hx hb dX13_isNumber_37 rfl (lv_at hl 0 rfl) ?_
    refine lv_bipush (v := 12) hx hb dX13_isNumber_38 (by decide +kernel) ?_
    refine lv_icmp_ne (tgt := 57) hx hb dX13_isNumber_40 (by decide +kernel) (fun c9 => absurd c9 (by decide +kernel)) (fun _ => ?_)
    refine lv_iload_n hx hb dX13_isNumber_43 rfl (lv_at hl 1 rfl) ?_
    refine lv_i2l hx hb dX13_isNumber_44 rfl ?_
    refine lv_ldc2 (v := (-99)) hx hb hown (hts (.constantLong RX13 171 (-99)) (List.mem_of_getElem? (i := 4) rfl)) dX13_isNumber_45 ?_
    refine lv_ldc2 (v := 99) hx hb hown (hts (.constantLong RX13 173 (99)) (List.mem_of_getElem? (i := 5) rfl)) dX13_isNumber_48 ?_
    refine vp_callSi (W.runS (As := [.long (x1.toInt64), .long (-99), .long 99]) (rest := []) ⟨hx, hb, hml, hown, hts⟩ (c_X13_in l D T (x1.toInt64) (-99) 99 x1.toInt (-99) 99 ((Int32.toInt_toInt64 _).trans rfl) (by decide +kernel) (by decide +kernel)) (va_cwS 3 hts gX13_isNumber_X13_in rfl rfl rfl hs_X13_in ⟨Nat.le_of_ble_eq_true rfl, Nat.le_of_ble_eq_true rfl⟩) (pR_S hP hE [] rfl) rfl rfl hl.1 rfl (lv_room (Nat.le_of_ble_eq_true rfl)) dX13_isNumber_51 ⟨Nat.le_of_ble_eq_true rfl, Nat.le_of_ble_eq_true rfl⟩) (fun r_15 hr_15 => ?_)
    rcases bool_post hr_15 with ⟨c_16, rfl⟩ | ⟨c_16, rfl⟩
    · refine lv_goto (tgt := 66) hx hb dX13_isNumber_54 (by decide +kernel) ?_
      exact W.zret hx hb hr rfl (fun t ht hW => ⟨_, rfl, (by exact (if_pos (by omega)).symm), ht⟩) (fun _ h => by cases h) dX13_isNumber_66
    · refine lv_goto (tgt := 66) hx hb dX13_isNumber_54 (by decide +kernel) ?_
      exact W.zret hx hb hr rfl (fun t ht hW => ⟨_, rfl, (by exact (if_neg (by omega)).symm), ht⟩) (fun _ h => by cases h) dX13_isNumber_66
theorem dX13_areNamed_0 : decode cX13_areNamed 0 = .ok (.iload_n 0, 1) := by decide +kernel
theorem dX13_areNamed_1 : decode cX13_areNamed 1 = .ok (.invokestatic 210, 3) := by decide +kernel
theorem dX13_areNamed_10 : decode cX13_areNamed 10 = .ok (.iload_n 3, 1) := by decide +kernel
theorem dX13_areNamed_11 : decode cX13_areNamed 11 = .ok (.iconst 1, 1) := by decide +kernel
theorem dX13_areNamed_12 : decode cX13_areNamed 12 = .ok (.isub, 1) := by decide +kernel
theorem dX13_areNamed_13 : decode cX13_areNamed 13 = .ok (.i2l, 1) := by decide +kernel
theorem dX13_areNamed_14 : decode cX13_areNamed 14 = .ok (.invokestatic 175, 3) := by decide +kernel
theorem dX13_areNamed_17 : decode cX13_areNamed 17 = .ok (.ifCond .eq 42, 3) := by decide +kernel
theorem dX13_areNamed_20 : decode cX13_areNamed 20 = .ok (.goto 7, 3) := by decide +kernel
theorem dX13_areNamed_23 : decode cX13_areNamed 23 = .ok (.iload_n 1, 1) := by decide +kernel
theorem dX13_areNamed_24 : decode cX13_areNamed 24 = .ok (.ifCond .ne 35, 3) := by decide +kernel
theorem dX13_areNamed_27 : decode cX13_areNamed 27 = .ok (.iload_n 0, 1) := by decide +kernel
theorem dX13_areNamed_28 : decode cX13_areNamed 28 = .ok (.invokestatic 210, 3) := by decide +kernel
theorem dX13_areNamed_31 : decode cX13_areNamed 31 = .ok (.iconst 1, 1) := by decide +kernel
theorem dX13_areNamed_32 : decode cX13_areNamed 32 = .ok (.if_icmp .le 19, 3) := by decide +kernel
theorem dX13_areNamed_35 : decode cX13_areNamed 35 = .ok (.iload_n 2, 1) := by decide +kernel
theorem dX13_areNamed_36 : decode cX13_areNamed 36 = .ok (.i2l, 1) := by decide +kernel
theorem dX13_areNamed_37 : decode cX13_areNamed 37 = .ok (.lconst 0, 1) := by decide +kernel
theorem dX13_areNamed_38 : decode cX13_areNamed 38 = .ok (.iload_n 3, 1) := by decide +kernel
theorem dX13_areNamed_39 : decode cX13_areNamed 39 = .ok (.iconst 1, 1) := by decide +kernel
theorem dX13_areNamed_4 : decode cX13_areNamed 4 = .ok (.ifCond .le 19, 3) := by decide +kernel
theorem dX13_areNamed_40 : decode cX13_areNamed 40 = .ok (.isub, 1) := by decide +kernel
theorem dX13_areNamed_41 : decode cX13_areNamed 41 = .ok (.i2l, 1) := by decide +kernel
theorem dX13_areNamed_42 : decode cX13_areNamed 42 = .ok (.invokestatic 175, 3) := by decide +kernel
theorem dX13_areNamed_45 : decode cX13_areNamed 45 = .ok (.ifCond .eq 14, 3) := by decide +kernel
theorem dX13_areNamed_48 : decode cX13_areNamed 48 = .ok (.goto 7, 3) := by decide +kernel
theorem dX13_areNamed_51 : decode cX13_areNamed 51 = .ok (.iload_n 2, 1) := by decide +kernel
theorem dX13_areNamed_52 : decode cX13_areNamed 52 = .ok (.ifCond .ne 7, 3) := by decide +kernel
theorem dX13_areNamed_55 : decode cX13_areNamed 55 = .ok (.iconst 1, 1) := by decide +kernel
theorem dX13_areNamed_56 : decode cX13_areNamed 56 = .ok (.goto 4, 3) := by decide +kernel
theorem dX13_areNamed_59 : decode cX13_areNamed 59 = .ok (.iconst 0, 1) := by decide +kernel
theorem dX13_areNamed_60 : decode cX13_areNamed 60 = .ok (.ireturn, 1) := by decide +kernel
theorem dX13_areNamed_7 : decode cX13_areNamed 7 = .ok (.iload_n 1, 1) := by decide +kernel
theorem dX13_areNamed_8 : decode cX13_areNamed 8 = .ok (.i2l, 1) := by decide +kernel
theorem dX13_areNamed_9 : decode cX13_areNamed 9 = .ok (.lconst 0, 1) := by decide +kernel
set_option maxRecDepth 20000 in
theorem ggX13_areNamed_X13_in : GoodIn wsX13_areNamed wsX13_in := goodIn_r _ [7] rfl (by decide +kernel)
set_option maxRecDepth 20000 in
theorem ggX13_areNamed_X13_names : GoodIn wsX13_areNamed wsX13_names := goodIn_r _ [4] rfl (by decide +kernel)
set_option maxRecDepth 20000 in
theorem gX13_areNamed_X13_in : GoodIn wsX13_areNamed (va_wsS RX13 175 yX13_in wsX13_in) := goodIn_app (goodIn_of _ (by decide +kernel)) ggX13_areNamed_X13_in
set_option maxRecDepth 20000 in
theorem gX13_areNamed_X13_names : GoodIn wsX13_areNamed (va_wsS RX13 210 yX13_names wsX13_names) := goodIn_app (goodIn_of _ (by decide +kernel)) ggX13_areNamed_X13_names
theorem hs_X13_names : yX13_names.cls ≠ "java/lang/invoke/MethodHandle" ∧ yX13_names.cls ≠ "java/lang/invoke/VarHandle" ∧ (parseMethodDescriptor yX13_names.desc).map (fun d => d.parameters.length) = some 1 := by decide +kernel
set_option maxHeartbeats 4000000 in
set_option maxRecDepth 100000 in
theorem c_X13_areNamed (l : Launch) (D : va_G) (T : Nat → ClassId) (x0 : Int32) (x1 : Int32) (x2 : Int32) (x3 : Int32) (hkx : 0 ≤ x0.toInt ∧ x0.toInt ≤ 12) (h3 : 0 ≤ x3.toInt ∧ x3.toInt ≤ 24) : Met l yX13_areNamed wsX13_areNamed ({ frames := 1, cells := 0, slots := 0, locals := 25 }) (pR [.int x0, .int x1, .int x2, .int x3] D T []) (vp_Si (fun r => r = if mayP (x0.toNatClampNeg) x1 x2 x3 then 1 else 0)) 0 0 (fun _ => False) := by
  refine Met.ofW (cc := cX13_areNamed) (maxL := 4) (ret := (some .boolean)) (by decide +kernel) rfl ?_
  intro p e s m args below meth c s₁ B hml hv
  obtain ⟨rfl, hP, hE⟩ := hv
  have hx := B.exec
  have hb := B.bytes
  have hr := B.returns
  have hts := atoms_spec (ws := wsX13_areNamed) B.pre
  have hown : s.vm.findClass RX13 = some m.cls := findClass_of_methodNamed B.named
  have hlocks := B.notSynchronized
  have hP : va_P D vwCl [] s.heap := hP
  have hl := lv_entry ([.int x0, .int x1, .int x2, .int x3]) (n := 4) (Nat.le_of_ble_eq_true rfl)
  rw [lg_entry_eq]
  generalize (lg_sl ([.int x0, .int x1, .int x2, .int x3]) ++ List.replicate (4 - (lg_sl ([.int x0, .int x1, .int x2, .int x3])).length) Slot.unset).toArray = ls at hl ⊢
  have hl : lv_has ls 4 [(0, .int x0), (1, .int x1), (2, .int x2), (3, .int x3)] := hl
  have hd3 := dec1 (i := x3) (by omega)
  refine lv_iload_n hx hb dX13_areNamed_0 rfl (lv_at hl 0 rfl) ?_
  refine vp_callSi (W.runS (As := [.int x0]) (rest := []) ⟨hx, hb, hml, hown, hts⟩ (c_X13_names l D T x0 (by omega)) (va_cwS 1 hts gX13_areNamed_X13_names rfl rfl rfl hs_X13_names ⟨Nat.le_of_ble_eq_true rfl, Nat.le_of_ble_eq_true rfl⟩) (pR_S hP hE [] rfl) rfl rfl hl.1 rfl (lv_room (Nat.le_of_ble_eq_true rfl)) dX13_areNamed_1 ⟨Nat.le_of_ble_eq_true rfl, Nat.le_of_ble_eq_true rfl⟩) (fun r_1 hr_1 => ?_)
  refine lv_if_le (tgt := 23) hx hb dX13_areNamed_4 (by decide +kernel) (fun c_2 => ?_) (fun c_2 => ?_)
  · rw [fa_le] at c_2
    try rw [ti_0] at c_2
    refine lv_iload_n hx hb dX13_areNamed_23 rfl (lv_at hl 1 rfl) ?_
    refine lv_if_ne (tgt := 59) hx hb dX13_areNamed_24 (by decide +kernel) (fun c_3 => ?_) (fun c_3 => ?_)
    · rw [fa_eq] at c_3
      try rw [ti_0] at c_3
      refine lv_iconst (v := 0) hx hb dX13_areNamed_59 (by decide +kernel) ?_
      exact W.zret hx hb hr rfl (fun t ht hW => ⟨_, rfl, (by exact (if_neg (fun ⟨⟨hM1, hM2⟩, hM3, hM4⟩ => by first | (have h9 := hM2 (by clear hM1 hM2 hM3 hM4; omega); clear hM1 hM2 hM3 hM4; omega) | (have h9 := hM4 (by clear hM1 hM2 hM3 hM4; omega); clear hM1 hM2 hM3 hM4; omega) | (have h9 := hM1 (by clear hM1 hM2 hM3 hM4; omega); clear hM1 hM2 hM3 hM4; omega) | (have h9 := hM3 (by clear hM1 hM2 hM3 hM4; omega); clear hM1 hM2 hM3 hM4; omega))).symm), ht⟩) (fun _ h => by cases h) dX13_areNamed_60
    · rw [fa_eq] at c_3
      try rw [ti_0] at c_3
      refine lv_iload_n hx hb dX13_areNamed_27 rfl (lv_at hl 0 rfl) ?_
      refine vp_callSi (W.runS (As := [.int x0]) (rest := []) ⟨hx, hb, hml, hown, hts⟩ (c_X13_names l D T x0 (by omega)) (va_cwS 1 hts gX13_areNamed_X13_names rfl rfl rfl hs_X13_names ⟨Nat.le_of_ble_eq_true rfl, Nat.le_of_ble_eq_true rfl⟩) (pR_S hP hE [] rfl) rfl rfl hl.1 rfl (lv_room (Nat.le_of_ble_eq_true rfl)) dX13_areNamed_28 ⟨Nat.le_of_ble_eq_true rfl, Nat.le_of_ble_eq_true rfl⟩) (fun r_4 hr_4 => ?_)
      refine lv_iconst (v := 1) hx hb dX13_areNamed_31 (by decide +kernel) ?_
      refine lv_icmp_le (tgt := 51) hx hb dX13_areNamed_32 (by decide +kernel) (fun c_5 => ?_) (fun c_5 => ?_)
      · rw [fa_le] at c_5
        try rw [ti_1] at c_5
        refine lv_iload_n hx hb dX13_areNamed_51 rfl (lv_at hl 2 rfl) ?_
        refine lv_if_ne (tgt := 59) hx hb dX13_areNamed_52 (by decide +kernel) (fun c_6 => ?_) (fun c_6 => ?_)
        · rw [fa_eq] at c_6
          try rw [ti_0] at c_6
          refine lv_iconst (v := 0) hx hb dX13_areNamed_59 (by decide +kernel) ?_
          exact W.zret hx hb hr rfl (fun t ht hW => ⟨_, rfl, (by exact (if_neg (fun ⟨⟨hM1, hM2⟩, hM3, hM4⟩ => by first | (have h9 := hM2 (by clear hM1 hM2 hM3 hM4; omega); clear hM1 hM2 hM3 hM4; omega) | (have h9 := hM4 (by clear hM1 hM2 hM3 hM4; omega); clear hM1 hM2 hM3 hM4; omega) | (have h9 := hM1 (by clear hM1 hM2 hM3 hM4; omega); clear hM1 hM2 hM3 hM4; omega) | (have h9 := hM3 (by clear hM1 hM2 hM3 hM4; omega); clear hM1 hM2 hM3 hM4; omega))).symm), ht⟩) (fun _ h => by cases h) dX13_areNamed_60
        · rw [fa_eq] at c_6
          try rw [ti_0] at c_6
          refine lv_iconst (v := 1) hx hb dX13_areNamed_55 (by decide +kernel) ?_
          refine lv_goto (tgt := 60) hx hb dX13_areNamed_56 (by decide +kernel) ?_
          exact W.zret hx hb hr rfl (fun t ht hW => ⟨_, rfl, (by exact (if_pos ⟨⟨fun a => by omega, fun a => by omega⟩, fun a => by omega, fun a => by omega⟩).symm), ht⟩) (fun _ h => by cases h) dX13_areNamed_60
      · rw [fa_le] at c_5
        try rw [ti_1] at c_5
        refine lv_iload_n hx hb dX13_areNamed_35 rfl (lv_at hl 2 rfl) ?_
        refine lv_i2l hx hb dX13_areNamed_36 rfl ?_
        refine lv_lconst (v := 0) hx hb dX13_areNamed_37 (by decide +kernel) ?_
        refine lv_iload_n hx hb dX13_areNamed_38 rfl (lv_at hl 3 rfl) ?_
        refine lv_iconst (v := 1) hx hb dX13_areNamed_39 (by decide +kernel) ?_
        refine lv_isub hx hb dX13_areNamed_40 ?_
        refine lv_i2l hx hb dX13_areNamed_41 rfl ?_
        refine vp_callSi (W.runS (As := [.long (x2.toInt64), .long 0, .long ((x3 - 1).toInt64)]) (rest := []) ⟨hx, hb, hml, hown, hts⟩ (c_X13_in l D T (x2.toInt64) 0 ((x3 - 1).toInt64) x2.toInt 0 ((x3 - 1)).toInt ((Int32.toInt_toInt64 _).trans rfl) (by decide +kernel) ((Int32.toInt_toInt64 _).trans rfl)) (va_cwS 3 hts gX13_areNamed_X13_in rfl rfl rfl hs_X13_in ⟨Nat.le_of_ble_eq_true rfl, Nat.le_of_ble_eq_true rfl⟩) (pR_S hP hE [] rfl) rfl rfl hl.1 rfl (lv_room (Nat.le_of_ble_eq_true rfl)) dX13_areNamed_42 ⟨Nat.le_of_ble_eq_true rfl, Nat.le_of_ble_eq_true rfl⟩) (fun r_7 hr_7 => ?_)
        rcases bool_post hr_7 with ⟨c_8, rfl⟩ | ⟨c_8, rfl⟩
        · refine lv_if_eq (tgt := 59) hx hb dX13_areNamed_45 (by decide +kernel) (fun c9 => absurd c9 (by decide +kernel)) (fun _ => ?_)
          refine lv_goto (tgt := 55) hx hb dX13_areNamed_48 (by decide +kernel) ?_
          refine lv_iconst (v := 1) hx hb dX13_areNamed_55 (by decide +kernel) ?_
          refine lv_goto (tgt := 60) hx hb dX13_areNamed_56 (by decide +kernel) ?_
          exact W.zret hx hb hr rfl (fun t ht hW => ⟨_, rfl, (by exact (if_pos ⟨⟨fun a => by omega, fun a => by omega⟩, fun a => by omega, fun a => by omega⟩).symm), ht⟩) (fun _ h => by cases h) dX13_areNamed_60
        · refine lv_if_eq (tgt := 59) hx hb dX13_areNamed_45 (by decide +kernel) (fun _ => ?_) (fun c9 => absurd c9 (by decide +kernel))
          refine lv_iconst (v := 0) hx hb dX13_areNamed_59 (by decide +kernel) ?_
          exact W.zret hx hb hr rfl (fun t ht hW => ⟨_, rfl, (by exact (if_neg (fun ⟨⟨hM1, hM2⟩, hM3, hM4⟩ => by first | (have h9 := hM2 (by clear hM1 hM2 hM3 hM4; omega); clear hM1 hM2 hM3 hM4; omega) | (have h9 := hM4 (by clear hM1 hM2 hM3 hM4; omega); clear hM1 hM2 hM3 hM4; omega) | (have h9 := hM1 (by clear hM1 hM2 hM3 hM4; omega); clear hM1 hM2 hM3 hM4; omega) | (have h9 := hM3 (by clear hM1 hM2 hM3 hM4; omega); clear hM1 hM2 hM3 hM4; omega))).symm), ht⟩) (fun _ h => by cases h) dX13_areNamed_60
  · rw [fa_le] at c_2
    try rw [ti_0] at c_2
    refine lv_iload_n hx hb dX13_areNamed_7 rfl (lv_at hl 1 rfl) ?_
    refine lv_i2l hx hb dX13_areNamed_8 rfl ?_
    refine lv_lconst (v := 0) hx hb dX13_areNamed_9 (by decide +kernel) ?_
    refine lv_iload_n hx hb dX13_areNamed_10 rfl (lv_at hl 3 rfl) ?_
    refine lv_iconst (v := 1) hx hb dX13_areNamed_11 (by decide +kernel) ?_
    refine lv_isub hx hb dX13_areNamed_12 ?_
    refine lv_i2l hx hb dX13_areNamed_13 rfl ?_
    refine vp_callSi (W.runS (As := [.long (x1.toInt64), .long 0, .long ((x3 - 1).toInt64)]) (rest := []) ⟨hx, hb, hml, hown, hts⟩ (c_X13_in l D T (x1.toInt64) 0 ((x3 - 1).toInt64) x1.toInt 0 ((x3 - 1)).toInt ((Int32.toInt_toInt64 _).trans rfl) (by decide +kernel) ((Int32.toInt_toInt64 _).trans rfl)) (va_cwS 3 hts gX13_areNamed_X13_in rfl rfl rfl hs_X13_in ⟨Nat.le_of_ble_eq_true rfl, Nat.le_of_ble_eq_true rfl⟩) (pR_S hP hE [] rfl) rfl rfl hl.1 rfl (lv_room (Nat.le_of_ble_eq_true rfl)) dX13_areNamed_14 ⟨Nat.le_of_ble_eq_true rfl, Nat.le_of_ble_eq_true rfl⟩) (fun r_9 hr_9 => ?_)
    rcases bool_post hr_9 with ⟨c_10, rfl⟩ | ⟨c_10, rfl⟩
    · refine lv_if_eq (tgt := 59) hx hb dX13_areNamed_17 (by decide +kernel) (fun c9 => absurd c9 (by decide +kernel)) (fun _ => ?_)
      refine lv_goto (tgt := 27) hx hb dX13_areNamed_20 (by decide +kernel) ?_
      refine lv_iload_n hx hb dX13_areNamed_27 rfl (lv_at hl 0 rfl) ?_
      refine vp_callSi (W.runS (As := [.int x0]) (rest := []) ⟨hx, hb, hml, hown, hts⟩ (c_X13_names l D T x0 (by omega)) (va_cwS 1 hts gX13_areNamed_X13_names rfl rfl rfl hs_X13_names ⟨Nat.le_of_ble_eq_true rfl, Nat.le_of_ble_eq_true rfl⟩) (pR_S hP hE [] rfl) rfl rfl hl.1 rfl (lv_room (Nat.le_of_ble_eq_true rfl)) dX13_areNamed_28 ⟨Nat.le_of_ble_eq_true rfl, Nat.le_of_ble_eq_true rfl⟩) (fun r_11 hr_11 => ?_)
      refine lv_iconst (v := 1) hx hb dX13_areNamed_31 (by decide +kernel) ?_
      refine lv_icmp_le (tgt := 51) hx hb dX13_areNamed_32 (by decide +kernel) (fun c_12 => ?_) (fun c_12 => ?_)
      · rw [fa_le] at c_12
        try rw [ti_1] at c_12
        refine lv_iload_n hx hb dX13_areNamed_51 rfl (lv_at hl 2 rfl) ?_
        refine lv_if_ne (tgt := 59) hx hb dX13_areNamed_52 (by decide +kernel) (fun c_13 => ?_) (fun c_13 => ?_)
        · rw [fa_eq] at c_13
          try rw [ti_0] at c_13
          refine lv_iconst (v := 0) hx hb dX13_areNamed_59 (by decide +kernel) ?_
          exact W.zret hx hb hr rfl (fun t ht hW => ⟨_, rfl, (by exact (if_neg (fun ⟨⟨hM1, hM2⟩, hM3, hM4⟩ => by first | (have h9 := hM2 (by clear hM1 hM2 hM3 hM4; omega); clear hM1 hM2 hM3 hM4; omega) | (have h9 := hM4 (by clear hM1 hM2 hM3 hM4; omega); clear hM1 hM2 hM3 hM4; omega) | (have h9 := hM1 (by clear hM1 hM2 hM3 hM4; omega); clear hM1 hM2 hM3 hM4; omega) | (have h9 := hM3 (by clear hM1 hM2 hM3 hM4; omega); clear hM1 hM2 hM3 hM4; omega))).symm), ht⟩) (fun _ h => by cases h) dX13_areNamed_60
        · rw [fa_eq] at c_13
          try rw [ti_0] at c_13
          refine lv_iconst (v := 1) hx hb dX13_areNamed_55 (by decide +kernel) ?_
          refine lv_goto (tgt := 60) hx hb dX13_areNamed_56 (by decide +kernel) ?_
          exact W.zret hx hb hr rfl (fun t ht hW => ⟨_, rfl, (by exact (if_pos ⟨⟨fun a => by omega, fun a => by omega⟩, fun a => by omega, fun a => by omega⟩).symm), ht⟩) (fun _ h => by cases h) dX13_areNamed_60
      · rw [fa_le] at c_12
        try rw [ti_1] at c_12
        refine lv_iload_n hx hb dX13_areNamed_35 rfl (lv_at hl 2 rfl) ?_
        refine lv_i2l hx hb dX13_areNamed_36 rfl ?_
        refine lv_lconst (v := 0) hx hb dX13_areNamed_37 (by decide +kernel) ?_
        refine lv_iload_n hx hb dX13_areNamed_38 rfl (lv_at hl 3 rfl) ?_
        refine lv_iconst (v := 1) hx hb dX13_areNamed_39 (by decide +kernel) ?_
        refine lv_isub hx hb dX13_areNamed_40 ?_
        refine lv_i2l hx hb dX13_areNamed_41 rfl ?_
        refine vp_callSi (W.runS (As := [.long (x2.toInt64), .long 0, .long ((x3 - 1).toInt64)]) (rest := []) ⟨hx, hb, hml, hown, hts⟩ (c_X13_in l D T (x2.toInt64) 0 ((x3 - 1).toInt64) x2.toInt 0 ((x3 - 1)).toInt ((Int32.toInt_toInt64 _).trans rfl) (by decide +kernel) ((Int32.toInt_toInt64 _).trans rfl)) (va_cwS 3 hts gX13_areNamed_X13_in rfl rfl rfl hs_X13_in ⟨Nat.le_of_ble_eq_true rfl, Nat.le_of_ble_eq_true rfl⟩) (pR_S hP hE [] rfl) rfl rfl hl.1 rfl (lv_room (Nat.le_of_ble_eq_true rfl)) dX13_areNamed_42 ⟨Nat.le_of_ble_eq_true rfl, Nat.le_of_ble_eq_true rfl⟩) (fun r_14 hr_14 => ?_)
        rcases bool_post hr_14 with ⟨c_15, rfl⟩ | ⟨c_15, rfl⟩
        · refine lv_if_eq (tgt := 59) hx hb dX13_areNamed_45 (by decide +kernel) (fun c9 => absurd c9 (by decide +kernel)) (fun _ => ?_)
          refine lv_goto (tgt := 55) hx hb dX13_areNamed_48 (by decide +kernel) ?_
          refine lv_iconst (v := 1) hx hb dX13_areNamed_55 (by decide +kernel) ?_
          refine lv_goto (tgt := 60) hx hb dX13_areNamed_56 (by decide +kernel) ?_
          exact W.zret hx hb hr rfl (fun t ht hW => ⟨_, rfl, (by exact (if_pos ⟨⟨fun a => by omega, fun a => by omega⟩, fun a => by omega, fun a => by omega⟩).symm), ht⟩) (fun _ h => by cases h) dX13_areNamed_60
        · refine lv_if_eq (tgt := 59) hx hb dX13_areNamed_45 (by decide +kernel) (fun _ => ?_) (fun c9 => absurd c9 (by decide +kernel))
          refine lv_iconst (v := 0) hx hb dX13_areNamed_59 (by decide +kernel) ?_
          exact W.zret hx hb hr rfl (fun t ht hW => ⟨_, rfl, (by exact (if_neg (fun ⟨⟨hM1, hM2⟩, hM3, hM4⟩ => by first | (have h9 := hM2 (by clear hM1 hM2 hM3 hM4; omega); clear hM1 hM2 hM3 hM4; omega) | (have h9 := hM4 (by clear hM1 hM2 hM3 hM4; omega); clear hM1 hM2 hM3 hM4; omega) | (have h9 := hM1 (by clear hM1 hM2 hM3 hM4; omega); clear hM1 hM2 hM3 hM4; omega) | (have h9 := hM3 (by clear hM1 hM2 hM3 hM4; omega); clear hM1 hM2 hM3 hM4; omega))).symm), ht⟩) (fun _ h => by cases h) dX13_areNamed_60
    · refine lv_if_eq (tgt := 59) hx hb dX13_areNamed_17 (by decide +kernel) (fun _ => ?_) (fun c9 => absurd c9 (by decide +kernel))
      refine lv_iconst (v := 0) hx hb dX13_areNamed_59 (by decide +kernel) ?_
      exact W.zret hx hb hr rfl (fun t ht hW => ⟨_, rfl, (by exact (if_neg (fun ⟨⟨hM1, hM2⟩, hM3, hM4⟩ => by first | (have h9 := hM2 (by clear hM1 hM2 hM3 hM4; omega); clear hM1 hM2 hM3 hM4; omega) | (have h9 := hM4 (by clear hM1 hM2 hM3 hM4; omega); clear hM1 hM2 hM3 hM4; omega) | (have h9 := hM1 (by clear hM1 hM2 hM3 hM4; omega); clear hM1 hM2 hM3 hM4; omega) | (have h9 := hM3 (by clear hM1 hM2 hM3 hM4; omega); clear hM1 hM2 hM3 hM4; omega))).symm), ht⟩) (fun _ h => by cases h) dX13_areNamed_60
theorem dX13_isClause_0 : decode cX13_isClause 0 = .ok (.iload_n 1, 1) := by decide +kernel
theorem dX13_isClause_1 : decode cX13_isClause 1 = .ok (.i2l, 1) := by decide +kernel
theorem dX13_isClause_10 : decode cX13_isClause 10 = .ok (.invokestatic 175, 3) := by decide +kernel
theorem dX13_isClause_13 : decode cX13_isClause 13 = .ok (.ireturn, 1) := by decide +kernel
theorem dX13_isClause_2 : decode cX13_isClause 2 = .ok (.lconst 0, 1) := by decide +kernel
theorem dX13_isClause_3 : decode cX13_isClause 3 = .ok (.aload_n 0, 1) := by decide +kernel
theorem dX13_isClause_4 : decode cX13_isClause 4 = .ok (.getfield 205, 3) := by decide +kernel
theorem dX13_isClause_7 : decode cX13_isClause 7 = .ok (.iconst 1, 1) := by decide +kernel
theorem dX13_isClause_8 : decode cX13_isClause 8 = .ok (.isub, 1) := by decide +kernel
theorem dX13_isClause_9 : decode cX13_isClause 9 = .ok (.i2l, 1) := by decide +kernel
set_option maxRecDepth 20000 in
theorem ggX13_isClause_X13_in : GoodIn wsX13_isClause wsX13_in := goodIn_r _ [5] rfl (by decide +kernel)
set_option maxRecDepth 20000 in
theorem gX13_isClause_X13_in : GoodIn wsX13_isClause (va_wsS RX13 175 yX13_in wsX13_in) := goodIn_app (goodIn_of _ (by decide +kernel)) ggX13_isClause_X13_in
set_option maxRecDepth 20000 in
theorem in_X13_isClause_X13 : ∀ w ∈ wsX130, w ∈ wsX13_isClause := sub_r [6, 7, 8, 9, 10, 11, 12, 13, 14, 15, 16, 17, 18, 19, 20, 21, 22, 23, 24, 25, 26, 27, 28, 29, 30, 31, 32, 33, 34, 35, 36, 37, 38, 39, 40, 41, 42, 43, 44, 45, 46, 47, 48, 49, 50] rfl
set_option maxHeartbeats 4000000 in
set_option maxRecDepth 100000 in
theorem c_X13_isClause (l : Launch) (D : va_G) (T : Nat → ClassId) (h0 : Nat) (fs0 : List Value) (x1 : Int32) (n : Int32) (e0_7 : fs0[7]? = some (.int n)) (hn : 0 ≤ n.toInt ∧ n.toInt ≤ 24) : Met l yX13_isClause wsX13_isClause ({ frames := 1, cells := 0, slots := 0, locals := 25 }) (pR [.ref h0, .int x1] D T [(h0, .inr (10, fs0))]) (vp_Si (fun r => r = if 0 ≤ x1.toInt ∧ x1.toInt ≤ n.toInt - 1 then 1 else 0)) 0 0 (fun _ => False) := by
  refine Met.ofW (cc := cX13_isClause) (maxL := 2) (ret := (some .boolean)) (by decide +kernel) rfl ?_
  intro p e s m args below meth c s₁ B hml hv
  obtain ⟨rfl, hP, hE⟩ := hv
  have hx := B.exec
  have hb := B.bytes
  have hr := B.returns
  have hts := atoms_spec (ws := wsX13_isClause) B.pre
  have hown : s.vm.findClass RX13 = some m.cls := findClass_of_methodNamed B.named
  have hlocks := B.notSynchronized
  have hP : va_P D vwCl [(h0, .inr (10, fs0))] s.heap := hP
  have hl := lv_entry ([.ref h0, .int x1]) (n := 2) (Nat.le_of_ble_eq_true rfl)
  rw [lg_entry_eq]
  generalize (lg_sl ([.ref h0, .int x1]) ++ List.replicate (2 - (lg_sl ([.ref h0, .int x1])).length) Slot.unset).toArray = ls at hl ⊢
  have hl : lv_has ls 2 [(0, .ref h0), (1, .int x1)] := hl
  have hd1 := dec1 (i := n) (by omega)
  refine lv_iload_n hx hb dX13_isClause_0 rfl (lv_at hl 1 rfl) ?_
  refine lv_i2l hx hb dX13_isClause_1 rfl ?_
  refine lv_lconst (v := 0) hx hb dX13_isClause_2 (by decide +kernel) ?_
  refine lv_aload_n hx hb dX13_isClause_3 rfl (lv_at hl 0 rfl) ?_
  refine va_get (D := D) (ci := 10) (v := .int n) (C := RX13) (T := TX13) (N := 45) hx hb hts in_X13_isClause_X13 hown hE.1 hP 0 rfl rfl 7 (by decide +kernel) (hts (.fieldLink RX13 205 "ClauseBookModel" "many" "I") (List.mem_of_getElem? (i := 1) rfl)) (fun _ h9 => h9) e0_7 dX13_isClause_4 ?_
  refine lv_iconst (v := 1) hx hb dX13_isClause_7 (by decide +kernel) ?_
  refine lv_isub hx hb dX13_isClause_8 ?_
  refine lv_i2l hx hb dX13_isClause_9 rfl ?_
  refine vp_callSi (W.runS (As := [.long (x1.toInt64), .long 0, .long ((n - 1).toInt64)]) (rest := []) ⟨hx, hb, hml, hown, hts⟩ (c_X13_in l D T (x1.toInt64) 0 ((n - 1).toInt64) x1.toInt 0 ((n - 1)).toInt ((Int32.toInt_toInt64 _).trans rfl) (by decide +kernel) ((Int32.toInt_toInt64 _).trans rfl)) (va_cwS 3 hts gX13_isClause_X13_in rfl rfl rfl hs_X13_in ⟨Nat.le_of_ble_eq_true rfl, Nat.le_of_ble_eq_true rfl⟩) (pR_S hP hE [] rfl) rfl rfl hl.1 rfl (lv_room (Nat.le_of_ble_eq_true rfl)) dX13_isClause_10 ⟨Nat.le_of_ble_eq_true rfl, Nat.le_of_ble_eq_true rfl⟩) (fun r_1 hr_1 => ?_)
  rcases bool_post hr_1 with ⟨c_2, rfl⟩ | ⟨c_2, rfl⟩
  · exact W.zret hx hb hr rfl (fun t ht hW => ⟨_, rfl, (by exact (if_pos (by omega)).symm), ht⟩) (fun _ h => by cases h) dX13_isClause_13
  · exact W.zret hx hb hr rfl (fun t ht hW => ⟨_, rfl, (by exact (if_neg (by omega)).symm), ht⟩) (fun _ h => by cases h) dX13_isClause_13
theorem dX13_isHad_0 : decode cX13_isHad 0 = .ok (.aload_n 0, 1) := by decide +kernel
theorem dX13_isHad_1 : decode cX13_isHad 1 = .ok (.iload_n 1, 1) := by decide +kernel
theorem dX13_isHad_10 : decode cX13_isHad 10 = .ok (.lconst 0, 1) := by decide +kernel
theorem dX13_isHad_11 : decode cX13_isHad 11 = .ok (.ldc2_w 186, 3) := by decide +kernel
theorem dX13_isHad_14 : decode cX13_isHad 14 = .ok (.invokestatic 175, 3) := by decide +kernel
theorem dX13_isHad_17 : decode cX13_isHad 17 = .ok (.ifCond .eq 14, 3) := by decide +kernel
theorem dX13_isHad_2 : decode cX13_isHad 2 = .ok (.invokevirtual 233, 3) := by decide +kernel
theorem dX13_isHad_20 : decode cX13_isHad 20 = .ok (.iload_n 3, 1) := by decide +kernel
theorem dX13_isHad_21 : decode cX13_isHad 21 = .ok (.invokestatic 198, 3) := by decide +kernel
theorem dX13_isHad_24 : decode cX13_isHad 24 = .ok (.ifCond .eq 7, 3) := by decide +kernel
theorem dX13_isHad_27 : decode cX13_isHad 27 = .ok (.iconst 1, 1) := by decide +kernel
theorem dX13_isHad_28 : decode cX13_isHad 28 = .ok (.goto 4, 3) := by decide +kernel
theorem dX13_isHad_31 : decode cX13_isHad 31 = .ok (.iconst 0, 1) := by decide +kernel
theorem dX13_isHad_32 : decode cX13_isHad 32 = .ok (.ireturn, 1) := by decide +kernel
theorem dX13_isHad_5 : decode cX13_isHad 5 = .ok (.ifCond .eq 26, 3) := by decide +kernel
theorem dX13_isHad_8 : decode cX13_isHad 8 = .ok (.iload_n 2, 1) := by decide +kernel
theorem dX13_isHad_9 : decode cX13_isHad 9 = .ok (.i2l, 1) := by decide +kernel
set_option maxRecDepth 20000 in
theorem ggX13_isHad_X13_in : GoodIn wsX13_isHad wsX13_in := goodIn_r _ [10] rfl (by decide +kernel)
set_option maxRecDepth 20000 in
theorem ggX13_isHad_X13_isClause : GoodIn wsX13_isHad wsX13_isClause := goodIn_r _ [6, 7, 8, 9, 5, 10, 15, 16, 17, 18, 19, 20, 21, 22, 23, 24, 25, 26, 27, 28, 29, 30, 31, 32, 33, 34, 35, 36, 37, 38, 39, 40, 41, 42, 43, 44, 45, 46, 47, 48, 49, 50, 51, 52, 53, 54, 55, 56, 57, 58, 59] rfl (by decide +kernel)
set_option maxRecDepth 20000 in
theorem ggX13_isHad_X13_isPath : GoodIn wsX13_isHad wsX13_isPath := goodIn_r _ [13, 14, 8, 9, 5, 10] rfl (by decide +kernel)
set_option maxRecDepth 20000 in
theorem gX13_isHad_X13_in : GoodIn wsX13_isHad (va_wsS RX13 175 yX13_in wsX13_in) := goodIn_app (goodIn_of _ (by decide +kernel)) ggX13_isHad_X13_in
set_option maxRecDepth 20000 in
theorem gX13_isHad_X13_isClause : GoodIn wsX13_isHad (wsV RX13 233 RX13 yX13_isClause wsX13_isClause) := goodIn_app (goodIn_r _ [2, 3, 4, 5] rfl (by decide +kernel)) ggX13_isHad_X13_isClause
set_option maxRecDepth 20000 in
theorem gX13_isHad_X13_isPath : GoodIn wsX13_isHad (va_wsS RX13 198 yX13_isPath wsX13_isPath) := goodIn_app (goodIn_of _ (by decide +kernel)) ggX13_isHad_X13_isPath
theorem hs_X13_isPath : yX13_isPath.cls ≠ "java/lang/invoke/MethodHandle" ∧ yX13_isPath.cls ≠ "java/lang/invoke/VarHandle" ∧ (parseMethodDescriptor yX13_isPath.desc).map (fun d => d.parameters.length) = some 1 := by decide +kernel
theorem hv_X13_isClause : yX13_isClause.cls = RX13 ∧ yX13_isClause.cls ≠ "java/lang/invoke/MethodHandle" ∧ yX13_isClause.cls ≠ "java/lang/invoke/VarHandle" ∧ (parseMethodDescriptor yX13_isClause.desc).map (fun d => d.parameters.length) = some 1 := by decide +kernel
set_option maxHeartbeats 4000000 in
set_option maxRecDepth 100000 in
theorem c_X13_isHad (l : Launch) (D : va_G) (T : Nat → ClassId) (h0 : Nat) (fs0 : List Value) (x1 : Int32) (x2 : Int32) (x3 : Int32) (n : Int32) (e0_7 : fs0[7]? = some (.int n)) (hn : 0 ≤ n.toInt ∧ n.toInt ≤ 24) : Met l yX13_isHad wsX13_isHad ({ frames := 2, cells := 0, slots := 0, locals := 46 }) (pR [.ref h0, .int x1, .int x2, .int x3] D T [(h0, .inr (10, fs0))]) (vp_Si (fun r => r = if (0 ≤ x1.toInt ∧ x1.toInt ≤ n.toInt - 1) ∧ (0 ≤ x2.toInt ∧ x2.toInt ≤ 6) ∧ 0 ≤ x3.toInt ∧ x3.toInt ≤ 63 then 1 else 0)) 0 0 (fun _ => False) := by
  refine Met.ofW (cc := cX13_isHad) (maxL := 4) (ret := (some .boolean)) (by decide +kernel) rfl ?_
  intro p e s m args below meth c s₁ B hml hv
  obtain ⟨rfl, hP, hE⟩ := hv
  have hx := B.exec
  have hb := B.bytes
  have hr := B.returns
  have hts := atoms_spec (ws := wsX13_isHad) B.pre
  have hown : s.vm.findClass RX13 = some m.cls := findClass_of_methodNamed B.named
  have hlocks := B.notSynchronized
  have hP : va_P D vwCl [(h0, .inr (10, fs0))] s.heap := hP
  have hl := lv_entry ([.ref h0, .int x1, .int x2, .int x3]) (n := 4) (Nat.le_of_ble_eq_true rfl)
  rw [lg_entry_eq]
  generalize (lg_sl ([.ref h0, .int x1, .int x2, .int x3]) ++ List.replicate (4 - (lg_sl ([.ref h0, .int x1, .int x2, .int x3])).length) Slot.unset).toArray = ls at hl ⊢
  have hl : lv_has ls 4 [(0, .ref h0), (1, .int x1), (2, .int x2), (3, .int x3)] := hl
  refine lv_aload_n hx hb dX13_isHad_0 rfl (lv_at hl 0 rfl) ?_
  refine lv_iload_n hx hb dX13_isHad_1 rfl (lv_at hl 1 rfl) ?_
  refine vp_callSi (W.runV (As := [.int x1]) (rest := []) ⟨hx, hb, hml, hown, hts⟩ (c_X13_isClause l D T h0 fs0 x1 n e0_7 (by omega)) (cwV 1 hts gX13_isHad_X13_isClause rfl rfl rfl hv_X13_isClause ⟨Nat.le_of_ble_eq_true rfl, Nat.le_of_ble_eq_true rfl⟩) (pR_V (q := (RX13, TX13, 45)) (ci := 10) (q0 := 0) hP hE rfl rfl [0] rfl) rfl rfl hl.1 rfl (lv_room (Nat.le_of_ble_eq_true rfl)) dX13_isHad_2 ⟨Nat.le_of_ble_eq_true rfl, Nat.le_of_ble_eq_true rfl⟩) (fun r_1 hr_1 => ?_)
  rcases bool_post hr_1 with ⟨c_2, rfl⟩ | ⟨c_2, rfl⟩
  · refine lv_if_eq (tgt := 31) hx hb dX13_isHad_5 (by decide +kernel) (fun c9 => absurd c9 (by decide +kernel)) (fun _ => ?_)
    refine lv_iload_n hx hb dX13_isHad_8 rfl (lv_at hl 2 rfl) ?_
    refine lv_i2l hx hb dX13_isHad_9 rfl ?_
    refine lv_lconst (v := 0) hx hb dX13_isHad_10 (by decide +kernel) ?_
    refine lv_ldc2 (v := 6) hx hb hown (hts (.constantLong RX13 186 (6)) (List.mem_of_getElem? (i := 1) rfl)) dX13_isHad_11 ?_
    refine vp_callSi (W.runS (As := [.long (x2.toInt64), .long 0, .long 6]) (rest := []) ⟨hx, hb, hml, hown, hts⟩ (c_X13_in l D T (x2.toInt64) 0 6 x2.toInt 0 6 ((Int32.toInt_toInt64 _).trans rfl) (by decide +kernel) (by decide +kernel)) (va_cwS 3 hts gX13_isHad_X13_in rfl rfl rfl hs_X13_in ⟨Nat.le_of_ble_eq_true rfl, Nat.le_of_ble_eq_true rfl⟩) (pR_S hP hE [] rfl) rfl rfl hl.1 rfl (lv_room (Nat.le_of_ble_eq_true rfl)) dX13_isHad_14 ⟨Nat.le_of_ble_eq_true rfl, Nat.le_of_ble_eq_true rfl⟩) (fun r_3 hr_3 => ?_)
    rcases bool_post hr_3 with ⟨c_4, rfl⟩ | ⟨c_4, rfl⟩
    · refine lv_if_eq (tgt := 31) hx hb dX13_isHad_17 (by decide +kernel) (fun c9 => absurd c9 (by decide +kernel)) (fun _ => ?_)
      refine lv_iload_n hx hb dX13_isHad_20 rfl (lv_at hl 3 rfl) ?_
      refine vp_callSi (W.runS (As := [.int x3]) (rest := []) ⟨hx, hb, hml, hown, hts⟩ (c_X13_isPath l D T x3) (va_cwS 1 hts gX13_isHad_X13_isPath rfl rfl rfl hs_X13_isPath ⟨Nat.le_of_ble_eq_true rfl, Nat.le_of_ble_eq_true rfl⟩) (pR_S hP hE [] rfl) rfl rfl hl.1 rfl (lv_room (Nat.le_of_ble_eq_true rfl)) dX13_isHad_21 ⟨Nat.le_of_ble_eq_true rfl, Nat.le_of_ble_eq_true rfl⟩) (fun r_5 hr_5 => ?_)
      rcases bool_post hr_5 with ⟨c_6, rfl⟩ | ⟨c_6, rfl⟩
      · refine lv_if_eq (tgt := 31) hx hb dX13_isHad_24 (by decide +kernel) (fun c9 => absurd c9 (by decide +kernel)) (fun _ => ?_)
        refine lv_iconst (v := 1) hx hb dX13_isHad_27 (by decide +kernel) ?_
        refine lv_goto (tgt := 32) hx hb dX13_isHad_28 (by decide +kernel) ?_
        exact W.zret hx hb hr rfl (fun t ht hW => ⟨_, rfl, (by exact (if_pos (by omega)).symm), ht⟩) (fun _ h => by cases h) dX13_isHad_32
      · refine lv_if_eq (tgt := 31) hx hb dX13_isHad_24 (by decide +kernel) (fun _ => ?_) (fun c9 => absurd c9 (by decide +kernel))
        refine lv_iconst (v := 0) hx hb dX13_isHad_31 (by decide +kernel) ?_
        exact W.zret hx hb hr rfl (fun t ht hW => ⟨_, rfl, (by exact (if_neg (by omega)).symm), ht⟩) (fun _ h => by cases h) dX13_isHad_32
    · refine lv_if_eq (tgt := 31) hx hb dX13_isHad_17 (by decide +kernel) (fun _ => ?_) (fun c9 => absurd c9 (by decide +kernel))
      refine lv_iconst (v := 0) hx hb dX13_isHad_31 (by decide +kernel) ?_
      exact W.zret hx hb hr rfl (fun t ht hW => ⟨_, rfl, (by exact (if_neg (by omega)).symm), ht⟩) (fun _ h => by cases h) dX13_isHad_32
  · refine lv_if_eq (tgt := 31) hx hb dX13_isHad_5 (by decide +kernel) (fun _ => ?_) (fun c9 => absurd c9 (by decide +kernel))
    refine lv_iconst (v := 0) hx hb dX13_isHad_31 (by decide +kernel) ?_
    exact W.zret hx hb hr rfl (fun t ht hW => ⟨_, rfl, (by exact (if_neg (by omega)).symm), ht⟩) (fun _ h => by cases h) dX13_isHad_32
theorem dX13_priceAt_0 : decode cX13_priceAt 0 = .ok (.aload_n 0, 1) := by decide +kernel
theorem dX13_priceAt_1 : decode cX13_priceAt 1 = .ok (.getfield 181, 3) := by decide +kernel
theorem dX13_priceAt_10 : decode cX13_priceAt 10 = .ok (.iadd, 1) := by decide +kernel
theorem dX13_priceAt_11 : decode cX13_priceAt 11 = .ok (.aload_n 0, 1) := by decide +kernel
theorem dX13_priceAt_12 : decode cX13_priceAt 12 = .ok (.getfield 13, 3) := by decide +kernel
theorem dX13_priceAt_15 : decode cX13_priceAt 15 = .ok (.iload_n 1, 1) := by decide +kernel
theorem dX13_priceAt_16 : decode cX13_priceAt 16 = .ok (.iload_n 2, 1) := by decide +kernel
theorem dX13_priceAt_17 : decode cX13_priceAt 17 = .ok (.isub, 1) := by decide +kernel
theorem dX13_priceAt_18 : decode cX13_priceAt 18 = .ok (.imul, 1) := by decide +kernel
theorem dX13_priceAt_19 : decode cX13_priceAt 19 = .ok (.isub, 1) := by decide +kernel
theorem dX13_priceAt_20 : decode cX13_priceAt 20 = .ok (.ireturn, 1) := by decide +kernel
theorem dX13_priceAt_4 : decode cX13_priceAt 4 = .ok (.aload_n 0, 1) := by decide +kernel
theorem dX13_priceAt_5 : decode cX13_priceAt 5 = .ok (.getfield 7, 3) := by decide +kernel
theorem dX13_priceAt_8 : decode cX13_priceAt 8 = .ok (.iload_n 2, 1) := by decide +kernel
theorem dX13_priceAt_9 : decode cX13_priceAt 9 = .ok (.imul, 1) := by decide +kernel
set_option maxRecDepth 20000 in
theorem in_X13_priceAt_X13 : ∀ w ∈ wsX130, w ∈ wsX13_priceAt := sub_r [4, 5, 6, 7, 8, 9, 10, 11, 12, 13, 14, 15, 16, 17, 18, 19, 20, 21, 22, 23, 24, 25, 26, 27, 28, 29, 30, 31, 32, 33, 34, 35, 36, 37, 38, 39, 40, 41, 42, 43, 44, 45, 46, 47, 48] rfl
set_option maxHeartbeats 4000000 in
set_option maxRecDepth 100000 in
theorem c_X13_priceAt (l : Launch) (D : va_G) (T : Nat → ClassId) (h0 : Nat) (fs0 : List Value) (x1 : Int32) (x2 : Int32) (n0 : Int32) (n1 : Int32) (n2 : Int32) (e0_0 : fs0[0]? = some (.int n0)) (e0_1 : fs0[1]? = some (.int n1)) (e0_2 : fs0[2]? = some (.int n2)) : Met l yX13_priceAt wsX13_priceAt ({ frames := 0, cells := 0, slots := 0, locals := 0 }) (pR [.ref h0, .int x1, .int x2] D T [(h0, .inr (10, fs0))]) (vp_Si (fun r => r = ((n0 + (n1 * x2)) - (n2 * (x1 - x2))))) 0 0 (fun _ => False) := by
  refine Met.ofW (cc := cX13_priceAt) (maxL := 3) (ret := (some .int)) (by decide +kernel) rfl ?_
  intro p e s m args below meth c s₁ B hml hv
  obtain ⟨rfl, hP, hE⟩ := hv
  have hx := B.exec
  have hb := B.bytes
  have hr := B.returns
  have hts := atoms_spec (ws := wsX13_priceAt) B.pre
  have hown : s.vm.findClass RX13 = some m.cls := findClass_of_methodNamed B.named
  have hlocks := B.notSynchronized
  have hP : va_P D vwCl [(h0, .inr (10, fs0))] s.heap := hP
  have hl := lv_entry ([.ref h0, .int x1, .int x2]) (n := 3) (Nat.le_of_ble_eq_true rfl)
  rw [lg_entry_eq]
  generalize (lg_sl ([.ref h0, .int x1, .int x2]) ++ List.replicate (3 - (lg_sl ([.ref h0, .int x1, .int x2])).length) Slot.unset).toArray = ls at hl ⊢
  have hl : lv_has ls 3 [(0, .ref h0), (1, .int x1), (2, .int x2)] := hl
  refine lv_aload_n hx hb dX13_priceAt_0 rfl (lv_at hl 0 rfl) ?_
  refine va_get (D := D) (ci := 10) (v := .int n0) (C := RX13) (T := TX13) (N := 45) hx hb hts in_X13_priceAt_X13 hown hE.1 hP 0 rfl rfl 0 (by decide +kernel) (hts (.fieldLink RX13 181 "ClauseBookModel" "start" "I") (List.mem_of_getElem? (i := 1) rfl)) (fun _ h9 => h9) e0_0 dX13_priceAt_1 ?_
  refine lv_aload_n hx hb dX13_priceAt_4 rfl (lv_at hl 0 rfl) ?_
  refine va_get (D := D) (ci := 10) (v := .int n1) (C := RX13) (T := TX13) (N := 45) hx hb hts in_X13_priceAt_X13 hown hE.1 hP 0 rfl rfl 1 (by decide +kernel) (hts (.fieldLink RX13 7 "ClauseBookModel" "up" "I") (List.mem_of_getElem? (i := 2) rfl)) (fun _ h9 => h9) e0_1 dX13_priceAt_5 ?_
  refine lv_iload_n hx hb dX13_priceAt_8 rfl (lv_at hl 2 rfl) ?_
  refine lv_imul hx hb dX13_priceAt_9 ?_
  refine lv_iadd hx hb dX13_priceAt_10 ?_
  refine lv_aload_n hx hb dX13_priceAt_11 rfl (lv_at hl 0 rfl) ?_
  refine va_get (D := D) (ci := 10) (v := .int n2) (C := RX13) (T := TX13) (N := 45) hx hb hts in_X13_priceAt_X13 hown hE.1 hP 0 rfl rfl 2 (by decide +kernel) (hts (.fieldLink RX13 13 "ClauseBookModel" "down" "I") (List.mem_of_getElem? (i := 3) rfl)) (fun _ h9 => h9) e0_2 dX13_priceAt_12 ?_
  refine lv_iload_n hx hb dX13_priceAt_15 rfl (lv_at hl 1 rfl) ?_
  refine lv_iload_n hx hb dX13_priceAt_16 rfl (lv_at hl 2 rfl) ?_
  refine lv_isub hx hb dX13_priceAt_17 ?_
  refine lv_imul hx hb dX13_priceAt_18 ?_
  refine lv_isub hx hb dX13_priceAt_19 ?_
  exact W.iret hx hb hr (fun t ht hW => ⟨_, rfl, rfl, ht⟩) (fun _ h => by cases h) dX13_priceAt_20
theorem dX13_price_0 : decode cX13_price 0 = .ok (.iload_n 1, 1) := by decide +kernel
theorem dX13_price_1 : decode cX13_price 1 = .ok (.iload_n 2, 1) := by decide +kernel
theorem dX13_price_10 : decode cX13_price 10 = .ok (.iload_n 2, 1) := by decide +kernel
theorem dX13_price_11 : decode cX13_price 11 = .ok (.invokevirtual 192, 3) := by decide +kernel
theorem dX13_price_14 : decode cX13_price 14 = .ok (.goto 5, 3) := by decide +kernel
theorem dX13_price_17 : decode cX13_price 17 = .ok (.bipush (-2), 2) := by decide +kernel
theorem dX13_price_19 : decode cX13_price 19 = .ok (.ireturn, 1) := by decide +kernel
theorem dX13_price_2 : decode cX13_price 2 = .ok (.invokestatic 188, 3) := by decide +kernel
theorem dX13_price_5 : decode cX13_price 5 = .ok (.ifCond .eq 12, 3) := by decide +kernel
theorem dX13_price_8 : decode cX13_price 8 = .ok (.aload_n 0, 1) := by decide +kernel
theorem dX13_price_9 : decode cX13_price 9 = .ok (.iload_n 1, 1) := by decide +kernel
set_option maxRecDepth 20000 in
theorem ggX13_price_X13_isSpot : GoodIn wsX13_price wsX13_isSpot := goodIn_r _ [4, 5, 6, 7, 3, 8] rfl (by decide +kernel)
set_option maxRecDepth 20000 in
theorem ggX13_price_X13_priceAt : GoodIn wsX13_price wsX13_priceAt := goodIn_r _ [12, 13, 14, 15, 16, 17, 18, 19, 20, 21, 22, 23, 24, 25, 26, 27, 28, 29, 30, 31, 32, 33, 34, 35, 36, 37, 38, 39, 40, 41, 42, 43, 44, 45, 46, 47, 48, 49, 50, 51, 52, 53, 54, 55, 56, 57, 58, 59, 60] rfl (by decide +kernel)
set_option maxRecDepth 20000 in
theorem gX13_price_X13_isSpot : GoodIn wsX13_price (va_wsS RX13 188 yX13_isSpot wsX13_isSpot) := goodIn_app (goodIn_of _ (by decide +kernel)) ggX13_price_X13_isSpot
set_option maxRecDepth 20000 in
theorem gX13_price_X13_priceAt : GoodIn wsX13_price (wsV RX13 192 RX13 yX13_priceAt wsX13_priceAt) := goodIn_app (goodIn_r _ [9, 10, 11, 3] rfl (by decide +kernel)) ggX13_price_X13_priceAt
theorem hs_X13_isSpot : yX13_isSpot.cls ≠ "java/lang/invoke/MethodHandle" ∧ yX13_isSpot.cls ≠ "java/lang/invoke/VarHandle" ∧ (parseMethodDescriptor yX13_isSpot.desc).map (fun d => d.parameters.length) = some 2 := by decide +kernel
theorem hv_X13_priceAt : yX13_priceAt.cls = RX13 ∧ yX13_priceAt.cls ≠ "java/lang/invoke/MethodHandle" ∧ yX13_priceAt.cls ≠ "java/lang/invoke/VarHandle" ∧ (parseMethodDescriptor yX13_priceAt.desc).map (fun d => d.parameters.length) = some 2 := by decide +kernel
set_option maxHeartbeats 4000000 in
set_option maxRecDepth 100000 in
theorem c_X13_price (l : Launch) (D : va_G) (T : Nat → ClassId) (h0 : Nat) (fs0 : List Value) (x1 : Int32) (x2 : Int32) (n0 : Int32) (n1 : Int32) (n2 : Int32) (e0_0 : fs0[0]? = some (.int n0)) (e0_1 : fs0[1]? = some (.int n1)) (e0_2 : fs0[2]? = some (.int n2)) : Met l yX13_price wsX13_price ({ frames := 2, cells := 0, slots := 0, locals := 46 }) (pR [.ref h0, .int x1, .int x2] D T [(h0, .inr (10, fs0))]) (vp_Si (fun r => r = sp_priceL n0 n1 n2 x1 x2)) 0 0 (fun _ => False) := by
  refine Met.ofW (cc := cX13_price) (maxL := 3) (ret := (some .int)) (by decide +kernel) rfl ?_
  intro p e s m args below meth c s₁ B hml hv
  obtain ⟨rfl, hP, hE⟩ := hv
  have hx := B.exec
  have hb := B.bytes
  have hr := B.returns
  have hts := atoms_spec (ws := wsX13_price) B.pre
  have hown : s.vm.findClass RX13 = some m.cls := findClass_of_methodNamed B.named
  have hlocks := B.notSynchronized
  have hP : va_P D vwCl [(h0, .inr (10, fs0))] s.heap := hP
  have hl := lv_entry ([.ref h0, .int x1, .int x2]) (n := 3) (Nat.le_of_ble_eq_true rfl)
  rw [lg_entry_eq]
  generalize (lg_sl ([.ref h0, .int x1, .int x2]) ++ List.replicate (3 - (lg_sl ([.ref h0, .int x1, .int x2])).length) Slot.unset).toArray = ls at hl ⊢
  have hl : lv_has ls 3 [(0, .ref h0), (1, .int x1), (2, .int x2)] := hl
  refine lv_iload_n hx hb dX13_price_0 rfl (lv_at hl 1 rfl) ?_
  refine lv_iload_n hx hb dX13_price_1 rfl (lv_at hl 2 rfl) ?_
  refine vp_callSi (W.runS (As := [.int x1, .int x2]) (rest := []) ⟨hx, hb, hml, hown, hts⟩ (c_X13_isSpot l D T x1 x2) (va_cwS 2 hts gX13_price_X13_isSpot rfl rfl rfl hs_X13_isSpot ⟨Nat.le_of_ble_eq_true rfl, Nat.le_of_ble_eq_true rfl⟩) (pR_S hP hE [] rfl) rfl rfl hl.1 rfl (lv_room (Nat.le_of_ble_eq_true rfl)) dX13_price_2 ⟨Nat.le_of_ble_eq_true rfl, Nat.le_of_ble_eq_true rfl⟩) (fun r_1 hr_1 => ?_)
  rcases bool_post hr_1 with ⟨c_2, rfl⟩ | ⟨c_2, rfl⟩
  · refine lv_if_eq (tgt := 17) hx hb dX13_price_5 (by decide +kernel) (fun c9 => absurd c9 (by decide +kernel)) (fun _ => ?_)
    refine lv_aload_n hx hb dX13_price_8 rfl (lv_at hl 0 rfl) ?_
    refine lv_iload_n hx hb dX13_price_9 rfl (lv_at hl 1 rfl) ?_
    refine lv_iload_n hx hb dX13_price_10 rfl (lv_at hl 2 rfl) ?_
    refine vp_callSi (W.runV (As := [.int x1, .int x2]) (rest := []) ⟨hx, hb, hml, hown, hts⟩ (c_X13_priceAt l D T h0 fs0 x1 x2 n0 n1 n2 e0_0 e0_1 e0_2) (cwV 2 hts gX13_price_X13_priceAt rfl rfl rfl hv_X13_priceAt ⟨Nat.le_of_ble_eq_true rfl, Nat.le_of_ble_eq_true rfl⟩) (pR_V (q := (RX13, TX13, 45)) (ci := 10) (q0 := 0) hP hE rfl rfl [0] rfl) rfl rfl hl.1 rfl (lv_room (Nat.le_of_ble_eq_true rfl)) dX13_price_11 ⟨Nat.le_of_ble_eq_true rfl, Nat.le_of_ble_eq_true rfl⟩) (fun r_3 hr_3 => ?_)
    refine lv_goto (tgt := 19) hx hb dX13_price_14 (by decide +kernel) ?_
    exact W.iret hx hb hr (fun t ht hW => ⟨_, rfl, (by unfold sp_priceL; rw [if_pos (by omega)]; first | exact hr_3 | rfl), ht⟩) (fun _ h => by cases h) dX13_price_19
  · refine lv_if_eq (tgt := 17) hx hb dX13_price_5 (by decide +kernel) (fun _ => ?_) (fun c9 => absurd c9 (by decide +kernel))
    refine lv_bipush (v := (-2)) hx hb dX13_price_17 (by decide +kernel) ?_
    exact W.iret hx hb hr (fun t ht hW => ⟨_, rfl, (by unfold sp_priceL; rw [if_neg (by omega)]), ht⟩) (fun _ h => by cases h) dX13_price_19
theorem dX13_at_0 : decode cX13_at 0 = .ok (.bipush 28, 2) := by decide +kernel
theorem dX13_at_10 : decode cX13_at 10 = .ok (.idiv, 1) := by decide +kernel
theorem dX13_at_11 : decode cX13_at 11 = .ok (.iadd, 1) := by decide +kernel
theorem dX13_at_12 : decode cX13_at 12 = .ok (.iload_n 2, 1) := by decide +kernel
theorem dX13_at_13 : decode cX13_at 13 = .ok (.iadd, 1) := by decide +kernel
theorem dX13_at_14 : decode cX13_at 14 = .ok (.ireturn, 1) := by decide +kernel
theorem dX13_at_2 : decode cX13_at 2 = .ok (.iload_n 0, 1) := by decide +kernel
theorem dX13_at_3 : decode cX13_at 3 = .ok (.imul, 1) := by decide +kernel
theorem dX13_at_4 : decode cX13_at 4 = .ok (.iload_n 1, 1) := by decide +kernel
theorem dX13_at_5 : decode cX13_at 5 = .ok (.iload_n 1, 1) := by decide +kernel
theorem dX13_at_6 : decode cX13_at 6 = .ok (.iconst 1, 1) := by decide +kernel
theorem dX13_at_7 : decode cX13_at 7 = .ok (.iadd, 1) := by decide +kernel
theorem dX13_at_8 : decode cX13_at 8 = .ok (.imul, 1) := by decide +kernel
theorem dX13_at_9 : decode cX13_at 9 = .ok (.iconst 2, 1) := by decide +kernel
set_option maxHeartbeats 4000000 in
set_option maxRecDepth 100000 in
theorem c_X13_at (l : Launch) (D : va_G) (T : Nat → ClassId) (x0 : Int32) (x1 : Int32) (x2 : Int32) (hxa : 0 ≤ x0.toInt ∧ x0.toInt < 24) (hya : 0 ≤ x1.toInt ∧ x1.toInt ≤ 6) (hza : 0 ≤ x2.toInt ∧ x2.toInt ≤ x1.toInt) : Met l yX13_at wsX13_at ({ frames := 0, cells := 0, slots := 0, locals := 0 }) (pR [.int x0, .int x1, .int x2] D T []) (vp_Si (fun r => r.toInt = 28 * x0.toInt + tri x1.toInt + x2.toInt ∧ 0 ≤ r.toInt ∧ r.toInt < 28 * x0.toInt + 28)) 0 0 (fun _ => False) := by
  refine Met.ofW (cc := cX13_at) (maxL := 3) (ret := (some .int)) (by decide +kernel) rfl ?_
  intro p e s m args below meth c s₁ B hml hv
  obtain ⟨rfl, hP, hE⟩ := hv
  have hx := B.exec
  have hb := B.bytes
  have hr := B.returns
  have hts := atoms_spec (ws := wsX13_at) B.pre
  have hown : s.vm.findClass RX13 = some m.cls := findClass_of_methodNamed B.named
  have hlocks := B.notSynchronized
  have hP : va_P D vwCl [] s.heap := hP
  have hl := lv_entry ([.int x0, .int x1, .int x2]) (n := 3) (Nat.le_of_ble_eq_true rfl)
  rw [lg_entry_eq]
  generalize (lg_sl ([.int x0, .int x1, .int x2]) ++ List.replicate (3 - (lg_sl ([.int x0, .int x1, .int x2])).length) Slot.unset).toArray = ls at hl ⊢
  have hl : lv_has ls 3 [(0, .int x0), (1, .int x1), (2, .int x2)] := hl
  refine lv_bipush (v := 28) hx hb dX13_at_0 (by decide +kernel) ?_
  refine lv_iload_n hx hb dX13_at_2 rfl (lv_at hl 0 rfl) ?_
  refine lv_imul hx hb dX13_at_3 ?_
  refine lv_iload_n hx hb dX13_at_4 rfl (lv_at hl 1 rfl) ?_
  refine lv_iload_n hx hb dX13_at_5 rfl (lv_at hl 1 rfl) ?_
  refine lv_iconst (v := 1) hx hb dX13_at_6 (by decide +kernel) ?_
  refine lv_iadd hx hb dX13_at_7 ?_
  refine lv_imul hx hb dX13_at_8 ?_
  refine lv_iconst (v := 2) hx hb dX13_at_9 (by decide +kernel) ?_
  refine lv_idiv hx hb dX13_at_10 (by decide +kernel) ?_
  refine lv_iadd hx hb dX13_at_11 ?_
  refine lv_iload_n hx hb dX13_at_12 rfl (lv_at hl 2 rfl) ?_
  refine lv_iadd hx hb dX13_at_13 ?_
  exact W.iret hx hb hr (fun t ht hW => ⟨_, rfl, (by have h9 := at_eq hxa hya hza; have h8 := tri_in hya; omega), ht⟩) (fun _ h => by cases h) dX13_at_14
theorem spot_0 {x : Int32} (h : 0 ≤ x.toInt ∧ x.toInt ≤ 63) : ((0 : Int32) : Int32) = sp_bits (x &&& (((1 : Int32) <<< ((0 : Int32) &&& 31)) - 1)) := by
  obtain ⟨j, hj, rfl⟩ : ∃ j : Nat, j < 64 ∧ x = nI j := by
    obtain ⟨j, hj, e⟩ := nI_of (x := x) (by rw [fa_lt, ti_0]; omega)
    subst e
    rw [nI_toInt hj] at h
    exact ⟨j, by omega, rfl⟩
  have key : ∀ j : Fin 64, (fun x : Int32 => ((0 : Int32) : Int32) = sp_bits (x &&& (((1 : Int32) <<< ((0 : Int32) &&& 31)) - 1))) (nI j.val) := by decide +kernel
  exact key ⟨j, hj⟩
theorem spot_1 {x : Int32} (h : 0 ≤ x.toInt ∧ x.toInt ≤ 63) : (((0 : Int32) + ((x >>> ((0 : Int32) &&& 31)) &&& 1)) : Int32) = sp_bits (x &&& (((1 : Int32) <<< ((1 : Int32) &&& 31)) - 1)) := by
  obtain ⟨j, hj, rfl⟩ : ∃ j : Nat, j < 64 ∧ x = nI j := by
    obtain ⟨j, hj, e⟩ := nI_of (x := x) (by rw [fa_lt, ti_0]; omega)
    subst e
    rw [nI_toInt hj] at h
    exact ⟨j, by omega, rfl⟩
  have key : ∀ j : Fin 64, (fun x : Int32 => (((0 : Int32) + ((x >>> ((0 : Int32) &&& 31)) &&& 1)) : Int32) = sp_bits (x &&& (((1 : Int32) <<< ((1 : Int32) &&& 31)) - 1))) (nI j.val) := by decide +kernel
  exact key ⟨j, hj⟩
theorem spot_2 {x : Int32} (h : 0 ≤ x.toInt ∧ x.toInt ≤ 63) : ((((0 : Int32) + ((x >>> ((0 : Int32) &&& 31)) &&& 1)) + ((x >>> ((1 : Int32) &&& 31)) &&& 1)) : Int32) = sp_bits (x &&& (((1 : Int32) <<< ((2 : Int32) &&& 31)) - 1)) := by
  obtain ⟨j, hj, rfl⟩ : ∃ j : Nat, j < 64 ∧ x = nI j := by
    obtain ⟨j, hj, e⟩ := nI_of (x := x) (by rw [fa_lt, ti_0]; omega)
    subst e
    rw [nI_toInt hj] at h
    exact ⟨j, by omega, rfl⟩
  have key : ∀ j : Fin 64, (fun x : Int32 => ((((0 : Int32) + ((x >>> ((0 : Int32) &&& 31)) &&& 1)) + ((x >>> ((1 : Int32) &&& 31)) &&& 1)) : Int32) = sp_bits (x &&& (((1 : Int32) <<< ((2 : Int32) &&& 31)) - 1))) (nI j.val) := by decide +kernel
  exact key ⟨j, hj⟩
theorem spot_3 {x : Int32} (h : 0 ≤ x.toInt ∧ x.toInt ≤ 63) : (((((0 : Int32) + ((x >>> ((0 : Int32) &&& 31)) &&& 1)) + ((x >>> ((1 : Int32) &&& 31)) &&& 1)) + ((x >>> ((2 : Int32) &&& 31)) &&& 1)) : Int32) = sp_bits (x &&& (((1 : Int32) <<< ((3 : Int32) &&& 31)) - 1)) := by
  obtain ⟨j, hj, rfl⟩ : ∃ j : Nat, j < 64 ∧ x = nI j := by
    obtain ⟨j, hj, e⟩ := nI_of (x := x) (by rw [fa_lt, ti_0]; omega)
    subst e
    rw [nI_toInt hj] at h
    exact ⟨j, by omega, rfl⟩
  have key : ∀ j : Fin 64, (fun x : Int32 => (((((0 : Int32) + ((x >>> ((0 : Int32) &&& 31)) &&& 1)) + ((x >>> ((1 : Int32) &&& 31)) &&& 1)) + ((x >>> ((2 : Int32) &&& 31)) &&& 1)) : Int32) = sp_bits (x &&& (((1 : Int32) <<< ((3 : Int32) &&& 31)) - 1))) (nI j.val) := by decide +kernel
  exact key ⟨j, hj⟩
theorem spot_4 {x : Int32} (h : 0 ≤ x.toInt ∧ x.toInt ≤ 63) : ((((((0 : Int32) + ((x >>> ((0 : Int32) &&& 31)) &&& 1)) + ((x >>> ((1 : Int32) &&& 31)) &&& 1)) + ((x >>> ((2 : Int32) &&& 31)) &&& 1)) + ((x >>> ((3 : Int32) &&& 31)) &&& 1)) : Int32) = sp_bits (x &&& (((1 : Int32) <<< ((4 : Int32) &&& 31)) - 1)) := by
  obtain ⟨j, hj, rfl⟩ : ∃ j : Nat, j < 64 ∧ x = nI j := by
    obtain ⟨j, hj, e⟩ := nI_of (x := x) (by rw [fa_lt, ti_0]; omega)
    subst e
    rw [nI_toInt hj] at h
    exact ⟨j, by omega, rfl⟩
  have key : ∀ j : Fin 64, (fun x : Int32 => ((((((0 : Int32) + ((x >>> ((0 : Int32) &&& 31)) &&& 1)) + ((x >>> ((1 : Int32) &&& 31)) &&& 1)) + ((x >>> ((2 : Int32) &&& 31)) &&& 1)) + ((x >>> ((3 : Int32) &&& 31)) &&& 1)) : Int32) = sp_bits (x &&& (((1 : Int32) <<< ((4 : Int32) &&& 31)) - 1))) (nI j.val) := by decide +kernel
  exact key ⟨j, hj⟩
theorem spot_5 {x : Int32} (h : 0 ≤ x.toInt ∧ x.toInt ≤ 63) : (((((((0 : Int32) + ((x >>> ((0 : Int32) &&& 31)) &&& 1)) + ((x >>> ((1 : Int32) &&& 31)) &&& 1)) + ((x >>> ((2 : Int32) &&& 31)) &&& 1)) + ((x >>> ((3 : Int32) &&& 31)) &&& 1)) + ((x >>> ((4 : Int32) &&& 31)) &&& 1)) : Int32) = sp_bits (x &&& (((1 : Int32) <<< ((5 : Int32) &&& 31)) - 1)) := by
  obtain ⟨j, hj, rfl⟩ : ∃ j : Nat, j < 64 ∧ x = nI j := by
    obtain ⟨j, hj, e⟩ := nI_of (x := x) (by rw [fa_lt, ti_0]; omega)
    subst e
    rw [nI_toInt hj] at h
    exact ⟨j, by omega, rfl⟩
  have key : ∀ j : Fin 64, (fun x : Int32 => (((((((0 : Int32) + ((x >>> ((0 : Int32) &&& 31)) &&& 1)) + ((x >>> ((1 : Int32) &&& 31)) &&& 1)) + ((x >>> ((2 : Int32) &&& 31)) &&& 1)) + ((x >>> ((3 : Int32) &&& 31)) &&& 1)) + ((x >>> ((4 : Int32) &&& 31)) &&& 1)) : Int32) = sp_bits (x &&& (((1 : Int32) <<< ((5 : Int32) &&& 31)) - 1))) (nI j.val) := by decide +kernel
  exact key ⟨j, hj⟩
theorem spot_6 {x : Int32} (h : 0 ≤ x.toInt ∧ x.toInt ≤ 63) : ((((((((0 : Int32) + ((x >>> ((0 : Int32) &&& 31)) &&& 1)) + ((x >>> ((1 : Int32) &&& 31)) &&& 1)) + ((x >>> ((2 : Int32) &&& 31)) &&& 1)) + ((x >>> ((3 : Int32) &&& 31)) &&& 1)) + ((x >>> ((4 : Int32) &&& 31)) &&& 1)) + ((x >>> ((5 : Int32) &&& 31)) &&& 1)) : Int32) = sp_bits (x &&& (((1 : Int32) <<< ((6 : Int32) &&& 31)) - 1)) := by
  obtain ⟨j, hj, rfl⟩ : ∃ j : Nat, j < 64 ∧ x = nI j := by
    obtain ⟨j, hj, e⟩ := nI_of (x := x) (by rw [fa_lt, ti_0]; omega)
    subst e
    rw [nI_toInt hj] at h
    exact ⟨j, by omega, rfl⟩
  have key : ∀ j : Fin 64, (fun x : Int32 => ((((((((0 : Int32) + ((x >>> ((0 : Int32) &&& 31)) &&& 1)) + ((x >>> ((1 : Int32) &&& 31)) &&& 1)) + ((x >>> ((2 : Int32) &&& 31)) &&& 1)) + ((x >>> ((3 : Int32) &&& 31)) &&& 1)) + ((x >>> ((4 : Int32) &&& 31)) &&& 1)) + ((x >>> ((5 : Int32) &&& 31)) &&& 1)) : Int32) = sp_bits (x &&& (((1 : Int32) <<< ((6 : Int32) &&& 31)) - 1))) (nI j.val) := by decide +kernel
  exact key ⟨j, hj⟩
theorem in7 {x : Int32} (h : 0 ≤ x.toInt ∧ x.toInt ≤ 6) : x = 0 ∨ x = 1 ∨ x = 2 ∨ x = 3 ∨ x = 4 ∨ x = 5 ∨ x = 6 := by
  simp only [fa_eq, ti_0, ti_1, ti_2, ti_3, ti_4, ti_5, ti_6]
  omega
theorem dX13_spotAt_0 : decode cX13_spotAt 0 = .ok (.iconst 0, 1) := by decide +kernel
theorem dX13_spotAt_1 : decode cX13_spotAt 1 = .ok (.istore_n 2, 1) := by decide +kernel
theorem dX13_spotAt_10 : decode cX13_spotAt 10 = .ok (.iload_n 0, 1) := by decide +kernel
theorem dX13_spotAt_11 : decode cX13_spotAt 11 = .ok (.iload_n 3, 1) := by decide +kernel
theorem dX13_spotAt_12 : decode cX13_spotAt 12 = .ok (.ishr, 1) := by decide +kernel
theorem dX13_spotAt_13 : decode cX13_spotAt 13 = .ok (.iconst 1, 1) := by decide +kernel
theorem dX13_spotAt_14 : decode cX13_spotAt 14 = .ok (.iand, 1) := by decide +kernel
theorem dX13_spotAt_15 : decode cX13_spotAt 15 = .ok (.iadd, 1) := by decide +kernel
theorem dX13_spotAt_16 : decode cX13_spotAt 16 = .ok (.istore_n 2, 1) := by decide +kernel
theorem dX13_spotAt_17 : decode cX13_spotAt 17 = .ok (.iinc 3 1, 3) := by decide +kernel
theorem dX13_spotAt_2 : decode cX13_spotAt 2 = .ok (.iconst 0, 1) := by decide +kernel
theorem dX13_spotAt_20 : decode cX13_spotAt 20 = .ok (.goto (-16), 3) := by decide +kernel
theorem dX13_spotAt_23 : decode cX13_spotAt 23 = .ok (.iload_n 2, 1) := by decide +kernel
theorem dX13_spotAt_24 : decode cX13_spotAt 24 = .ok (.ireturn, 1) := by decide +kernel
theorem dX13_spotAt_3 : decode cX13_spotAt 3 = .ok (.istore_n 3, 1) := by decide +kernel
theorem dX13_spotAt_4 : decode cX13_spotAt 4 = .ok (.iload_n 3, 1) := by decide +kernel
theorem dX13_spotAt_5 : decode cX13_spotAt 5 = .ok (.iload_n 1, 1) := by decide +kernel
theorem dX13_spotAt_6 : decode cX13_spotAt 6 = .ok (.if_icmp .ge 17, 3) := by decide +kernel
theorem dX13_spotAt_9 : decode cX13_spotAt 9 = .ok (.iload_n 2, 1) := by decide +kernel
set_option maxHeartbeats 4000000 in
set_option maxRecDepth 100000 in
theorem c_X13_spotAt (l : Launch) (D : va_G) (T : Nat → ClassId) (x0 : Int32) (x1 : Int32) (hp0 : 0 ≤ x0.toInt ∧ x0.toInt ≤ 63) (hd0 : 0 ≤ x1.toInt ∧ x1.toInt ≤ 6) : Met l yX13_spotAt wsX13_spotAt ({ frames := 0, cells := 0, slots := 0, locals := 0 }) (pR [.int x0, .int x1] D T []) (vp_Si (fun r => r = sp_bits (x0 &&& ((1 <<< (x1 &&& 31)) - 1)))) 0 0 (fun _ => False) := by
  refine Met.ofW (cc := cX13_spotAt) (maxL := 4) (ret := (some .int)) (by decide +kernel) rfl ?_
  intro p e s m args below meth c s₁ B hml hv
  obtain ⟨rfl, hP, hE⟩ := hv
  have hx := B.exec
  have hb := B.bytes
  have hr := B.returns
  have hts := atoms_spec (ws := wsX13_spotAt) B.pre
  have hown : s.vm.findClass RX13 = some m.cls := findClass_of_methodNamed B.named
  have hlocks := B.notSynchronized
  have hP : va_P D vwCl [] s.heap := hP
  have hl := lv_entry ([.int x0, .int x1]) (n := 4) (Nat.le_of_ble_eq_true rfl)
  rw [lg_entry_eq]
  generalize (lg_sl ([.int x0, .int x1]) ++ List.replicate (4 - (lg_sl ([.int x0, .int x1])).length) Slot.unset).toArray = ls at hl ⊢
  have hl : lv_has ls 4 [(0, .int x0), (1, .int x1)] := hl
  rcases in7 (x := x1) (by omega) with rfl | rfl | rfl | rfl | rfl | rfl | rfl
  · refine lv_iconst (v := 0) hx hb dX13_spotAt_0 (by decide +kernel) ?_
    refine lv_istore_n (lv' := [(2, .int 0), (0, .int x0), (1, .int 0)]) hx hb dX13_spotAt_1 rfl hl (by decide +kernel) rfl (fun ls hl => ?_)
    refine lv_iconst (v := 0) hx hb dX13_spotAt_2 (by decide +kernel) ?_
    refine lv_istore_n (lv' := [(3, .int 0), (2, .int 0), (0, .int x0), (1, .int 0)]) hx hb dX13_spotAt_3 rfl hl (by decide +kernel) rfl (fun ls hl => ?_)
    refine lv_iload_n hx hb dX13_spotAt_4 rfl (lv_at hl 0 rfl) ?_
    refine lv_iload_n hx hb dX13_spotAt_5 rfl (lv_at hl 3 rfl) ?_
    refine lv_icmp_ge (tgt := 23) hx hb dX13_spotAt_6 (by decide +kernel) (fun _ => ?_) (fun c9 => absurd c9 (by decide +kernel))
    refine lv_iload_n hx hb dX13_spotAt_23 rfl (lv_at hl 1 rfl) ?_
    exact W.iret hx hb hr (fun t ht hW => ⟨_, rfl, (by subst_vars; exact spot_0 hp0), ht⟩) (fun _ h => by cases h) dX13_spotAt_24
  · refine lv_iconst (v := 0) hx hb dX13_spotAt_0 (by decide +kernel) ?_
    refine lv_istore_n (lv' := [(2, .int 0), (0, .int x0), (1, .int 1)]) hx hb dX13_spotAt_1 rfl hl (by decide +kernel) rfl (fun ls hl => ?_)
    refine lv_iconst (v := 0) hx hb dX13_spotAt_2 (by decide +kernel) ?_
    refine lv_istore_n (lv' := [(3, .int 0), (2, .int 0), (0, .int x0), (1, .int 1)]) hx hb dX13_spotAt_3 rfl hl (by decide +kernel) rfl (fun ls hl => ?_)
    refine lv_iload_n hx hb dX13_spotAt_4 rfl (lv_at hl 0 rfl) ?_
    refine lv_iload_n hx hb dX13_spotAt_5 rfl (lv_at hl 3 rfl) ?_
    refine lv_icmp_ge (tgt := 23) hx hb dX13_spotAt_6 (by decide +kernel) (fun c9 => absurd c9 (by decide +kernel)) (fun _ => ?_)
    refine lv_iload_n hx hb dX13_spotAt_9 rfl (lv_at hl 1 rfl) ?_
    refine lv_iload_n hx hb dX13_spotAt_10 rfl (lv_at hl 2 rfl) ?_
    refine lv_iload_n hx hb dX13_spotAt_11 rfl (lv_at hl 0 rfl) ?_
    refine lv_ishr hx hb dX13_spotAt_12 ?_
    refine lv_iconst (v := 1) hx hb dX13_spotAt_13 (by decide +kernel) ?_
    refine lv_iand hx hb dX13_spotAt_14 ?_
    refine lv_iadd hx hb dX13_spotAt_15 ?_
    refine lv_topi (fun z_1 ez_1 => ?_)
    refine lv_istore_n (lv' := [(2, .int z_1), (3, .int 0), (0, .int x0), (1, .int 1)]) hx hb dX13_spotAt_16 rfl hl (by decide +kernel) rfl (fun ls hl => ?_)
    refine lv_iinc (v := 1) (lv' := [(3, .int 1), (2, .int z_1), (0, .int x0), (1, .int 1)]) hx hb dX13_spotAt_17 hl (k := 1) rfl (by decide +kernel) (by decide +kernel) rfl (fun ls hl => ?_)
    refine lv_goto (tgt := 4) hx hb dX13_spotAt_20 (by decide +kernel) ?_
    refine lv_iload_n hx hb dX13_spotAt_4 rfl (lv_at hl 0 rfl) ?_
    refine lv_iload_n hx hb dX13_spotAt_5 rfl (lv_at hl 3 rfl) ?_
    refine lv_icmp_ge (tgt := 23) hx hb dX13_spotAt_6 (by decide +kernel) (fun _ => ?_) (fun c9 => absurd c9 (by decide +kernel))
    refine lv_iload_n hx hb dX13_spotAt_23 rfl (lv_at hl 1 rfl) ?_
    exact W.iret hx hb hr (fun t ht hW => ⟨_, rfl, (by subst_vars; exact spot_1 hp0), ht⟩) (fun _ h => by cases h) dX13_spotAt_24
  · refine lv_iconst (v := 0) hx hb dX13_spotAt_0 (by decide +kernel) ?_
    refine lv_istore_n (lv' := [(2, .int 0), (0, .int x0), (1, .int 2)]) hx hb dX13_spotAt_1 rfl hl (by decide +kernel) rfl (fun ls hl => ?_)
    refine lv_iconst (v := 0) hx hb dX13_spotAt_2 (by decide +kernel) ?_
    refine lv_istore_n (lv' := [(3, .int 0), (2, .int 0), (0, .int x0), (1, .int 2)]) hx hb dX13_spotAt_3 rfl hl (by decide +kernel) rfl (fun ls hl => ?_)
    refine lv_iload_n hx hb dX13_spotAt_4 rfl (lv_at hl 0 rfl) ?_
    refine lv_iload_n hx hb dX13_spotAt_5 rfl (lv_at hl 3 rfl) ?_
    refine lv_icmp_ge (tgt := 23) hx hb dX13_spotAt_6 (by decide +kernel) (fun c9 => absurd c9 (by decide +kernel)) (fun _ => ?_)
    refine lv_iload_n hx hb dX13_spotAt_9 rfl (lv_at hl 1 rfl) ?_
    refine lv_iload_n hx hb dX13_spotAt_10 rfl (lv_at hl 2 rfl) ?_
    refine lv_iload_n hx hb dX13_spotAt_11 rfl (lv_at hl 0 rfl) ?_
    refine lv_ishr hx hb dX13_spotAt_12 ?_
    refine lv_iconst (v := 1) hx hb dX13_spotAt_13 (by decide +kernel) ?_
    refine lv_iand hx hb dX13_spotAt_14 ?_
    refine lv_iadd hx hb dX13_spotAt_15 ?_
    refine lv_topi (fun z_2 ez_2 => ?_)
    refine lv_istore_n (lv' := [(2, .int z_2), (3, .int 0), (0, .int x0), (1, .int 2)]) hx hb dX13_spotAt_16 rfl hl (by decide +kernel) rfl (fun ls hl => ?_)
    refine lv_iinc (v := 1) (lv' := [(3, .int 1), (2, .int z_2), (0, .int x0), (1, .int 2)]) hx hb dX13_spotAt_17 hl (k := 1) rfl (by decide +kernel) (by decide +kernel) rfl (fun ls hl => ?_)
    refine lv_goto (tgt := 4) hx hb dX13_spotAt_20 (by decide +kernel) ?_
    refine lv_iload_n hx hb dX13_spotAt_4 rfl (lv_at hl 0 rfl) ?_
    refine lv_iload_n hx hb dX13_spotAt_5 rfl (lv_at hl 3 rfl) ?_
    refine lv_icmp_ge (tgt := 23) hx hb dX13_spotAt_6 (by decide +kernel) (fun c9 => absurd c9 (by decide +kernel)) (fun _ => ?_)
    refine lv_iload_n hx hb dX13_spotAt_9 rfl (lv_at hl 1 rfl) ?_
    refine lv_iload_n hx hb dX13_spotAt_10 rfl (lv_at hl 2 rfl) ?_
    refine lv_iload_n hx hb dX13_spotAt_11 rfl (lv_at hl 0 rfl) ?_
    refine lv_ishr hx hb dX13_spotAt_12 ?_
    refine lv_iconst (v := 1) hx hb dX13_spotAt_13 (by decide +kernel) ?_
    refine lv_iand hx hb dX13_spotAt_14 ?_
    refine lv_iadd hx hb dX13_spotAt_15 ?_
    refine lv_topi (fun z_3 ez_3 => ?_)
    refine lv_istore_n (lv' := [(2, .int z_3), (3, .int 1), (0, .int x0), (1, .int 2)]) hx hb dX13_spotAt_16 rfl hl (by decide +kernel) rfl (fun ls hl => ?_)
    refine lv_iinc (v := 2) (lv' := [(3, .int 2), (2, .int z_3), (0, .int x0), (1, .int 2)]) hx hb dX13_spotAt_17 hl (k := 1) rfl (by decide +kernel) (by decide +kernel) rfl (fun ls hl => ?_)
    refine lv_goto (tgt := 4) hx hb dX13_spotAt_20 (by decide +kernel) ?_
    refine lv_iload_n hx hb dX13_spotAt_4 rfl (lv_at hl 0 rfl) ?_
    refine lv_iload_n hx hb dX13_spotAt_5 rfl (lv_at hl 3 rfl) ?_
    refine lv_icmp_ge (tgt := 23) hx hb dX13_spotAt_6 (by decide +kernel) (fun _ => ?_) (fun c9 => absurd c9 (by decide +kernel))
    refine lv_iload_n hx hb dX13_spotAt_23 rfl (lv_at hl 1 rfl) ?_
    exact W.iret hx hb hr (fun t ht hW => ⟨_, rfl, (by subst_vars; exact spot_2 hp0), ht⟩) (fun _ h => by cases h) dX13_spotAt_24
  · refine lv_iconst (v := 0) hx hb dX13_spotAt_0 (by decide +kernel) ?_
    refine lv_istore_n (lv' := [(2, .int 0), (0, .int x0), (1, .int 3)]) hx hb dX13_spotAt_1 rfl hl (by decide +kernel) rfl (fun ls hl => ?_)
    refine lv_iconst (v := 0) hx hb dX13_spotAt_2 (by decide +kernel) ?_
    refine lv_istore_n (lv' := [(3, .int 0), (2, .int 0), (0, .int x0), (1, .int 3)]) hx hb dX13_spotAt_3 rfl hl (by decide +kernel) rfl (fun ls hl => ?_)
    refine lv_iload_n hx hb dX13_spotAt_4 rfl (lv_at hl 0 rfl) ?_
    refine lv_iload_n hx hb dX13_spotAt_5 rfl (lv_at hl 3 rfl) ?_
    refine lv_icmp_ge (tgt := 23) hx hb dX13_spotAt_6 (by decide +kernel) (fun c9 => absurd c9 (by decide +kernel)) (fun _ => ?_)
    refine lv_iload_n hx hb dX13_spotAt_9 rfl (lv_at hl 1 rfl) ?_
    refine lv_iload_n hx hb dX13_spotAt_10 rfl (lv_at hl 2 rfl) ?_
    refine lv_iload_n hx hb dX13_spotAt_11 rfl (lv_at hl 0 rfl) ?_
    refine lv_ishr hx hb dX13_spotAt_12 ?_
    refine lv_iconst (v := 1) hx hb dX13_spotAt_13 (by decide +kernel) ?_
    refine lv_iand hx hb dX13_spotAt_14 ?_
    refine lv_iadd hx hb dX13_spotAt_15 ?_
    refine lv_topi (fun z_4 ez_4 => ?_)
    refine lv_istore_n (lv' := [(2, .int z_4), (3, .int 0), (0, .int x0), (1, .int 3)]) hx hb dX13_spotAt_16 rfl hl (by decide +kernel) rfl (fun ls hl => ?_)
    refine lv_iinc (v := 1) (lv' := [(3, .int 1), (2, .int z_4), (0, .int x0), (1, .int 3)]) hx hb dX13_spotAt_17 hl (k := 1) rfl (by decide +kernel) (by decide +kernel) rfl (fun ls hl => ?_)
    refine lv_goto (tgt := 4) hx hb dX13_spotAt_20 (by decide +kernel) ?_
    refine lv_iload_n hx hb dX13_spotAt_4 rfl (lv_at hl 0 rfl) ?_
    refine lv_iload_n hx hb dX13_spotAt_5 rfl (lv_at hl 3 rfl) ?_
    refine lv_icmp_ge (tgt := 23) hx hb dX13_spotAt_6 (by decide +kernel) (fun c9 => absurd c9 (by decide +kernel)) (fun _ => ?_)
    refine lv_iload_n hx hb dX13_spotAt_9 rfl (lv_at hl 1 rfl) ?_
    refine lv_iload_n hx hb dX13_spotAt_10 rfl (lv_at hl 2 rfl) ?_
    refine lv_iload_n hx hb dX13_spotAt_11 rfl (lv_at hl 0 rfl) ?_
    refine lv_ishr hx hb dX13_spotAt_12 ?_
    refine lv_iconst (v := 1) hx hb dX13_spotAt_13 (by decide +kernel) ?_
    refine lv_iand hx hb dX13_spotAt_14 ?_
    refine lv_iadd hx hb dX13_spotAt_15 ?_
    refine lv_topi (fun z_5 ez_5 => ?_)
    refine lv_istore_n (lv' := [(2, .int z_5), (3, .int 1), (0, .int x0), (1, .int 3)]) hx hb dX13_spotAt_16 rfl hl (by decide +kernel) rfl (fun ls hl => ?_)
    refine lv_iinc (v := 2) (lv' := [(3, .int 2), (2, .int z_5), (0, .int x0), (1, .int 3)]) hx hb dX13_spotAt_17 hl (k := 1) rfl (by decide +kernel) (by decide +kernel) rfl (fun ls hl => ?_)
    refine lv_goto (tgt := 4) hx hb dX13_spotAt_20 (by decide +kernel) ?_
    refine lv_iload_n hx hb dX13_spotAt_4 rfl (lv_at hl 0 rfl) ?_
    refine lv_iload_n hx hb dX13_spotAt_5 rfl (lv_at hl 3 rfl) ?_
    refine lv_icmp_ge (tgt := 23) hx hb dX13_spotAt_6 (by decide +kernel) (fun c9 => absurd c9 (by decide +kernel)) (fun _ => ?_)
    refine lv_iload_n hx hb dX13_spotAt_9 rfl (lv_at hl 1 rfl) ?_
    refine lv_iload_n hx hb dX13_spotAt_10 rfl (lv_at hl 2 rfl) ?_
    refine lv_iload_n hx hb dX13_spotAt_11 rfl (lv_at hl 0 rfl) ?_
    refine lv_ishr hx hb dX13_spotAt_12 ?_
    refine lv_iconst (v := 1) hx hb dX13_spotAt_13 (by decide +kernel) ?_
    refine lv_iand hx hb dX13_spotAt_14 ?_
    refine lv_iadd hx hb dX13_spotAt_15 ?_
    refine lv_topi (fun z_6 ez_6 => ?_)
    refine lv_istore_n (lv' := [(2, .int z_6), (3, .int 2), (0, .int x0), (1, .int 3)]) hx hb dX13_spotAt_16 rfl hl (by decide +kernel) rfl (fun ls hl => ?_)
    refine lv_iinc (v := 3) (lv' := [(3, .int 3), (2, .int z_6), (0, .int x0), (1, .int 3)]) hx hb dX13_spotAt_17 hl (k := 1) rfl (by decide +kernel) (by decide +kernel) rfl (fun ls hl => ?_)
    refine lv_goto (tgt := 4) hx hb dX13_spotAt_20 (by decide +kernel) ?_
    refine lv_iload_n hx hb dX13_spotAt_4 rfl (lv_at hl 0 rfl) ?_
    refine lv_iload_n hx hb dX13_spotAt_5 rfl (lv_at hl 3 rfl) ?_
    refine lv_icmp_ge (tgt := 23) hx hb dX13_spotAt_6 (by decide +kernel) (fun _ => ?_) (fun c9 => absurd c9 (by decide +kernel))
    refine lv_iload_n hx hb dX13_spotAt_23 rfl (lv_at hl 1 rfl) ?_
    exact W.iret hx hb hr (fun t ht hW => ⟨_, rfl, (by subst_vars; exact spot_3 hp0), ht⟩) (fun _ h => by cases h) dX13_spotAt_24
  · refine lv_iconst (v := 0) hx hb dX13_spotAt_0 (by decide +kernel) ?_
    refine lv_istore_n (lv' := [(2, .int 0), (0, .int x0), (1, .int 4)]) hx hb dX13_spotAt_1 rfl hl (by decide +kernel) rfl (fun ls hl => ?_)
    refine lv_iconst (v := 0) hx hb dX13_spotAt_2 (by decide +kernel) ?_
    refine lv_istore_n (lv' := [(3, .int 0), (2, .int 0), (0, .int x0), (1, .int 4)]) hx hb dX13_spotAt_3 rfl hl (by decide +kernel) rfl (fun ls hl => ?_)
    refine lv_iload_n hx hb dX13_spotAt_4 rfl (lv_at hl 0 rfl) ?_
    refine lv_iload_n hx hb dX13_spotAt_5 rfl (lv_at hl 3 rfl) ?_
    refine lv_icmp_ge (tgt := 23) hx hb dX13_spotAt_6 (by decide +kernel) (fun c9 => absurd c9 (by decide +kernel)) (fun _ => ?_)
    refine lv_iload_n hx hb dX13_spotAt_9 rfl (lv_at hl 1 rfl) ?_
    refine lv_iload_n hx hb dX13_spotAt_10 rfl (lv_at hl 2 rfl) ?_
    refine lv_iload_n hx hb dX13_spotAt_11 rfl (lv_at hl 0 rfl) ?_
    refine lv_ishr hx hb dX13_spotAt_12 ?_
    refine lv_iconst (v := 1) hx hb dX13_spotAt_13 (by decide +kernel) ?_
    refine lv_iand hx hb dX13_spotAt_14 ?_
    refine lv_iadd hx hb dX13_spotAt_15 ?_
    refine lv_topi (fun z_7 ez_7 => ?_)
    refine lv_istore_n (lv' := [(2, .int z_7), (3, .int 0), (0, .int x0), (1, .int 4)]) hx hb dX13_spotAt_16 rfl hl (by decide +kernel) rfl (fun ls hl => ?_)
    refine lv_iinc (v := 1) (lv' := [(3, .int 1), (2, .int z_7), (0, .int x0), (1, .int 4)]) hx hb dX13_spotAt_17 hl (k := 1) rfl (by decide +kernel) (by decide +kernel) rfl (fun ls hl => ?_)
    refine lv_goto (tgt := 4) hx hb dX13_spotAt_20 (by decide +kernel) ?_
    refine lv_iload_n hx hb dX13_spotAt_4 rfl (lv_at hl 0 rfl) ?_
    refine lv_iload_n hx hb dX13_spotAt_5 rfl (lv_at hl 3 rfl) ?_
    refine lv_icmp_ge (tgt := 23) hx hb dX13_spotAt_6 (by decide +kernel) (fun c9 => absurd c9 (by decide +kernel)) (fun _ => ?_)
    refine lv_iload_n hx hb dX13_spotAt_9 rfl (lv_at hl 1 rfl) ?_
    refine lv_iload_n hx hb dX13_spotAt_10 rfl (lv_at hl 2 rfl) ?_
    refine lv_iload_n hx hb dX13_spotAt_11 rfl (lv_at hl 0 rfl) ?_
    refine lv_ishr hx hb dX13_spotAt_12 ?_
    refine lv_iconst (v := 1) hx hb dX13_spotAt_13 (by decide +kernel) ?_
    refine lv_iand hx hb dX13_spotAt_14 ?_
    refine lv_iadd hx hb dX13_spotAt_15 ?_
    refine lv_topi (fun z_8 ez_8 => ?_)
    refine lv_istore_n (lv' := [(2, .int z_8), (3, .int 1), (0, .int x0), (1, .int 4)]) hx hb dX13_spotAt_16 rfl hl (by decide +kernel) rfl (fun ls hl => ?_)
    refine lv_iinc (v := 2) (lv' := [(3, .int 2), (2, .int z_8), (0, .int x0), (1, .int 4)]) hx hb dX13_spotAt_17 hl (k := 1) rfl (by decide +kernel) (by decide +kernel) rfl (fun ls hl => ?_)
    refine lv_goto (tgt := 4) hx hb dX13_spotAt_20 (by decide +kernel) ?_
    refine lv_iload_n hx hb dX13_spotAt_4 rfl (lv_at hl 0 rfl) ?_
    refine lv_iload_n hx hb dX13_spotAt_5 rfl (lv_at hl 3 rfl) ?_
    refine lv_icmp_ge (tgt := 23) hx hb dX13_spotAt_6 (by decide +kernel) (fun c9 => absurd c9 (by decide +kernel)) (fun _ => ?_)
    refine lv_iload_n hx hb dX13_spotAt_9 rfl (lv_at hl 1 rfl) ?_
    refine lv_iload_n hx hb dX13_spotAt_10 rfl (lv_at hl 2 rfl) ?_
    refine lv_iload_n hx hb dX13_spotAt_11 rfl (lv_at hl 0 rfl) ?_
    refine lv_ishr hx hb dX13_spotAt_12 ?_
    refine lv_iconst (v := 1) hx hb dX13_spotAt_13 (by decide +kernel) ?_
    refine lv_iand hx hb dX13_spotAt_14 ?_
    refine lv_iadd hx hb dX13_spotAt_15 ?_
    refine lv_topi (fun z_9 ez_9 => ?_)
    refine lv_istore_n (lv' := [(2, .int z_9), (3, .int 2), (0, .int x0), (1, .int 4)]) hx hb dX13_spotAt_16 rfl hl (by decide +kernel) rfl (fun ls hl => ?_)
    refine lv_iinc (v := 3) (lv' := [(3, .int 3), (2, .int z_9), (0, .int x0), (1, .int 4)]) hx hb dX13_spotAt_17 hl (k := 1) rfl (by decide +kernel) (by decide +kernel) rfl (fun ls hl => ?_)
    refine lv_goto (tgt := 4) hx hb dX13_spotAt_20 (by decide +kernel) ?_
    refine lv_iload_n hx hb dX13_spotAt_4 rfl (lv_at hl 0 rfl) ?_
    refine lv_iload_n hx hb dX13_spotAt_5 rfl (lv_at hl 3 rfl) ?_
    refine lv_icmp_ge (tgt := 23) hx hb dX13_spotAt_6 (by decide +kernel) (fun c9 => absurd c9 (by decide +kernel)) (fun _ => ?_)
    refine lv_iload_n hx hb dX13_spotAt_9 rfl (lv_at hl 1 rfl) ?_
    refine lv_iload_n hx hb dX13_spotAt_10 rfl (lv_at hl 2 rfl) ?_
    refine lv_iload_n hx hb dX13_spotAt_11 rfl (lv_at hl 0 rfl) ?_
    refine lv_ishr hx hb dX13_spotAt_12 ?_
    refine lv_iconst (v := 1) hx hb dX13_spotAt_13 (by decide +kernel) ?_
    refine lv_iand hx hb dX13_spotAt_14 ?_
    refine lv_iadd hx hb dX13_spotAt_15 ?_
    refine lv_topi (fun z_10 ez_10 => ?_)
    refine lv_istore_n (lv' := [(2, .int z_10), (3, .int 3), (0, .int x0), (1, .int 4)]) hx hb dX13_spotAt_16 rfl hl (by decide +kernel) rfl (fun ls hl => ?_)
    refine lv_iinc (v := 4) (lv' := [(3, .int 4), (2, .int z_10), (0, .int x0), (1, .int 4)]) hx hb dX13_spotAt_17 hl (k := 1) rfl (by decide +kernel) (by decide +kernel) rfl (fun ls hl => ?_)
    refine lv_goto (tgt := 4) hx hb dX13_spotAt_20 (by decide +kernel) ?_
    refine lv_iload_n hx hb dX13_spotAt_4 rfl (lv_at hl 0 rfl) ?_
    refine lv_iload_n hx hb dX13_spotAt_5 rfl (lv_at hl 3 rfl) ?_
    refine lv_icmp_ge (tgt := 23) hx hb dX13_spotAt_6 (by decide +kernel) (fun _ => ?_) (fun c9 => absurd c9 (by decide +kernel))
    refine lv_iload_n hx hb dX13_spotAt_23 rfl (lv_at hl 1 rfl) ?_
    exact W.iret hx hb hr (fun t ht hW => ⟨_, rfl, (by subst_vars; exact spot_4 hp0), ht⟩) (fun _ h => by cases h) dX13_spotAt_24
  · refine lv_iconst (v := 0) hx hb dX13_spotAt_0 (by decide +kernel) ?_
    refine lv_istore_n (lv' := [(2, .int 0), (0, .int x0), (1, .int 5)]) hx hb dX13_spotAt_1 rfl hl (by decide +kernel) rfl (fun ls hl => ?_)
    refine lv_iconst (v := 0) hx hb dX13_spotAt_2 (by decide +kernel) ?_
    refine lv_istore_n (lv' := [(3, .int 0), (2, .int 0), (0, .int x0), (1, .int 5)]) hx hb dX13_spotAt_3 rfl hl (by decide +kernel) rfl (fun ls hl => ?_)
    refine lv_iload_n hx hb dX13_spotAt_4 rfl (lv_at hl 0 rfl) ?_
    refine lv_iload_n hx hb dX13_spotAt_5 rfl (lv_at hl 3 rfl) ?_
    refine lv_icmp_ge (tgt := 23) hx hb dX13_spotAt_6 (by decide +kernel) (fun c9 => absurd c9 (by decide +kernel)) (fun _ => ?_)
    refine lv_iload_n hx hb dX13_spotAt_9 rfl (lv_at hl 1 rfl) ?_
    refine lv_iload_n hx hb dX13_spotAt_10 rfl (lv_at hl 2 rfl) ?_
    refine lv_iload_n hx hb dX13_spotAt_11 rfl (lv_at hl 0 rfl) ?_
    refine lv_ishr hx hb dX13_spotAt_12 ?_
    refine lv_iconst (v := 1) hx hb dX13_spotAt_13 (by decide +kernel) ?_
    refine lv_iand hx hb dX13_spotAt_14 ?_
    refine lv_iadd hx hb dX13_spotAt_15 ?_
    refine lv_topi (fun z_11 ez_11 => ?_)
    refine lv_istore_n (lv' := [(2, .int z_11), (3, .int 0), (0, .int x0), (1, .int 5)]) hx hb dX13_spotAt_16 rfl hl (by decide +kernel) rfl (fun ls hl => ?_)
    refine lv_iinc (v := 1) (lv' := [(3, .int 1), (2, .int z_11), (0, .int x0), (1, .int 5)]) hx hb dX13_spotAt_17 hl (k := 1) rfl (by decide +kernel) (by decide +kernel) rfl (fun ls hl => ?_)
    refine lv_goto (tgt := 4) hx hb dX13_spotAt_20 (by decide +kernel) ?_
    refine lv_iload_n hx hb dX13_spotAt_4 rfl (lv_at hl 0 rfl) ?_
    refine lv_iload_n hx hb dX13_spotAt_5 rfl (lv_at hl 3 rfl) ?_
    refine lv_icmp_ge (tgt := 23) hx hb dX13_spotAt_6 (by decide +kernel) (fun c9 => absurd c9 (by decide +kernel)) (fun _ => ?_)
    refine lv_iload_n hx hb dX13_spotAt_9 rfl (lv_at hl 1 rfl) ?_
    refine lv_iload_n hx hb dX13_spotAt_10 rfl (lv_at hl 2 rfl) ?_
    refine lv_iload_n hx hb dX13_spotAt_11 rfl (lv_at hl 0 rfl) ?_
    refine lv_ishr hx hb dX13_spotAt_12 ?_
    refine lv_iconst (v := 1) hx hb dX13_spotAt_13 (by decide +kernel) ?_
    refine lv_iand hx hb dX13_spotAt_14 ?_
    refine lv_iadd hx hb dX13_spotAt_15 ?_
    refine lv_topi (fun z_12 ez_12 => ?_)
    refine lv_istore_n (lv' := [(2, .int z_12), (3, .int 1), (0, .int x0), (1, .int 5)]) hx hb dX13_spotAt_16 rfl hl (by decide +kernel) rfl (fun ls hl => ?_)
    refine lv_iinc (v := 2) (lv' := [(3, .int 2), (2, .int z_12), (0, .int x0), (1, .int 5)]) hx hb dX13_spotAt_17 hl (k := 1) rfl (by decide +kernel) (by decide +kernel) rfl (fun ls hl => ?_)
    refine lv_goto (tgt := 4) hx hb dX13_spotAt_20 (by decide +kernel) ?_
    refine lv_iload_n hx hb dX13_spotAt_4 rfl (lv_at hl 0 rfl) ?_
    refine lv_iload_n hx hb dX13_spotAt_5 rfl (lv_at hl 3 rfl) ?_
    refine lv_icmp_ge (tgt := 23) hx hb dX13_spotAt_6 (by decide +kernel) (fun c9 => absurd c9 (by decide +kernel)) (fun _ => ?_)
    refine lv_iload_n hx hb dX13_spotAt_9 rfl (lv_at hl 1 rfl) ?_
    refine lv_iload_n hx hb dX13_spotAt_10 rfl (lv_at hl 2 rfl) ?_
    refine lv_iload_n hx hb dX13_spotAt_11 rfl (lv_at hl 0 rfl) ?_
    refine lv_ishr hx hb dX13_spotAt_12 ?_
    refine lv_iconst (v := 1) hx hb dX13_spotAt_13 (by decide +kernel) ?_
    refine lv_iand hx hb dX13_spotAt_14 ?_
    refine lv_iadd hx hb dX13_spotAt_15 ?_
    refine lv_topi (fun z_13 ez_13 => ?_)
    refine lv_istore_n (lv' := [(2, .int z_13), (3, .int 2), (0, .int x0), (1, .int 5)]) hx hb dX13_spotAt_16 rfl hl (by decide +kernel) rfl (fun ls hl => ?_)
    refine lv_iinc (v := 3) (lv' := [(3, .int 3), (2, .int z_13), (0, .int x0), (1, .int 5)]) hx hb dX13_spotAt_17 hl (k := 1) rfl (by decide +kernel) (by decide +kernel) rfl (fun ls hl => ?_)
    refine lv_goto (tgt := 4) hx hb dX13_spotAt_20 (by decide +kernel) ?_
    refine lv_iload_n hx hb dX13_spotAt_4 rfl (lv_at hl 0 rfl) ?_
    refine lv_iload_n hx hb dX13_spotAt_5 rfl (lv_at hl 3 rfl) ?_
    refine lv_icmp_ge (tgt := 23) hx hb dX13_spotAt_6 (by decide +kernel) (fun c9 => absurd c9 (by decide +kernel)) (fun _ => ?_)
    refine lv_iload_n hx hb dX13_spotAt_9 rfl (lv_at hl 1 rfl) ?_
    refine lv_iload_n hx hb dX13_spotAt_10 rfl (lv_at hl 2 rfl) ?_
    refine lv_iload_n hx hb dX13_spotAt_11 rfl (lv_at hl 0 rfl) ?_
    refine lv_ishr hx hb dX13_spotAt_12 ?_
    refine lv_iconst (v := 1) hx hb dX13_spotAt_13 (by decide +kernel) ?_
    refine lv_iand hx hb dX13_spotAt_14 ?_
    refine lv_iadd hx hb dX13_spotAt_15 ?_
    refine lv_topi (fun z_14 ez_14 => ?_)
    refine lv_istore_n (lv' := [(2, .int z_14), (3, .int 3), (0, .int x0), (1, .int 5)]) hx hb dX13_spotAt_16 rfl hl (by decide +kernel) rfl (fun ls hl => ?_)
    refine lv_iinc (v := 4) (lv' := [(3, .int 4), (2, .int z_14), (0, .int x0), (1, .int 5)]) hx hb dX13_spotAt_17 hl (k := 1) rfl (by decide +kernel) (by decide +kernel) rfl (fun ls hl => ?_)
    refine lv_goto (tgt := 4) hx hb dX13_spotAt_20 (by decide +kernel) ?_
    refine lv_iload_n hx hb dX13_spotAt_4 rfl (lv_at hl 0 rfl) ?_
    refine lv_iload_n hx hb dX13_spotAt_5 rfl (lv_at hl 3 rfl) ?_
    refine lv_icmp_ge (tgt := 23) hx hb dX13_spotAt_6 (by decide +kernel) (fun c9 => absurd c9 (by decide +kernel)) (fun _ => ?_)
    refine lv_iload_n hx hb dX13_spotAt_9 rfl (lv_at hl 1 rfl) ?_
    refine lv_iload_n hx hb dX13_spotAt_10 rfl (lv_at hl 2 rfl) ?_
    refine lv_iload_n hx hb dX13_spotAt_11 rfl (lv_at hl 0 rfl) ?_
    refine lv_ishr hx hb dX13_spotAt_12 ?_
    refine lv_iconst (v := 1) hx hb dX13_spotAt_13 (by decide +kernel) ?_
    refine lv_iand hx hb dX13_spotAt_14 ?_
    refine lv_iadd hx hb dX13_spotAt_15 ?_
    refine lv_topi (fun z_15 ez_15 => ?_)
    refine lv_istore_n (lv' := [(2, .int z_15), (3, .int 4), (0, .int x0), (1, .int 5)]) hx hb dX13_spotAt_16 rfl hl (by decide +kernel) rfl (fun ls hl => ?_)
    refine lv_iinc (v := 5) (lv' := [(3, .int 5), (2, .int z_15), (0, .int x0), (1, .int 5)]) hx hb dX13_spotAt_17 hl (k := 1) rfl (by decide +kernel) (by decide +kernel) rfl (fun ls hl => ?_)
    refine lv_goto (tgt := 4) hx hb dX13_spotAt_20 (by decide +kernel) ?_
    refine lv_iload_n hx hb dX13_spotAt_4 rfl (lv_at hl 0 rfl) ?_
    refine lv_iload_n hx hb dX13_spotAt_5 rfl (lv_at hl 3 rfl) ?_
    refine lv_icmp_ge (tgt := 23) hx hb dX13_spotAt_6 (by decide +kernel) (fun _ => ?_) (fun c9 => absurd c9 (by decide +kernel))
    refine lv_iload_n hx hb dX13_spotAt_23 rfl (lv_at hl 1 rfl) ?_
    exact W.iret hx hb hr (fun t ht hW => ⟨_, rfl, (by subst_vars; exact spot_5 hp0), ht⟩) (fun _ h => by cases h) dX13_spotAt_24
  · refine lv_iconst (v := 0) hx hb dX13_spotAt_0 (by decide +kernel) ?_
    refine lv_istore_n (lv' := [(2, .int 0), (0, .int x0), (1, .int 6)]) hx hb dX13_spotAt_1 rfl hl (by decide +kernel) rfl (fun ls hl => ?_)
    refine lv_iconst (v := 0) hx hb dX13_spotAt_2 (by decide +kernel) ?_
    refine lv_istore_n (lv' := [(3, .int 0), (2, .int 0), (0, .int x0), (1, .int 6)]) hx hb dX13_spotAt_3 rfl hl (by decide +kernel) rfl (fun ls hl => ?_)
    refine lv_iload_n hx hb dX13_spotAt_4 rfl (lv_at hl 0 rfl) ?_
    refine lv_iload_n hx hb dX13_spotAt_5 rfl (lv_at hl 3 rfl) ?_
    refine lv_icmp_ge (tgt := 23) hx hb dX13_spotAt_6 (by decide +kernel) (fun c9 => absurd c9 (by decide +kernel)) (fun _ => ?_)
    refine lv_iload_n hx hb dX13_spotAt_9 rfl (lv_at hl 1 rfl) ?_
    refine lv_iload_n hx hb dX13_spotAt_10 rfl (lv_at hl 2 rfl) ?_
    refine lv_iload_n hx hb dX13_spotAt_11 rfl (lv_at hl 0 rfl) ?_
    refine lv_ishr hx hb dX13_spotAt_12 ?_
    refine lv_iconst (v := 1) hx hb dX13_spotAt_13 (by decide +kernel) ?_
    refine lv_iand hx hb dX13_spotAt_14 ?_
    refine lv_iadd hx hb dX13_spotAt_15 ?_
    refine lv_topi (fun z_16 ez_16 => ?_)
    refine lv_istore_n (lv' := [(2, .int z_16), (3, .int 0), (0, .int x0), (1, .int 6)]) hx hb dX13_spotAt_16 rfl hl (by decide +kernel) rfl (fun ls hl => ?_)
    refine lv_iinc (v := 1) (lv' := [(3, .int 1), (2, .int z_16), (0, .int x0), (1, .int 6)]) hx hb dX13_spotAt_17 hl (k := 1) rfl (by decide +kernel) (by decide +kernel) rfl (fun ls hl => ?_)
    refine lv_goto (tgt := 4) hx hb dX13_spotAt_20 (by decide +kernel) ?_
    refine lv_iload_n hx hb dX13_spotAt_4 rfl (lv_at hl 0 rfl) ?_
    refine lv_iload_n hx hb dX13_spotAt_5 rfl (lv_at hl 3 rfl) ?_
    refine lv_icmp_ge (tgt := 23) hx hb dX13_spotAt_6 (by decide +kernel) (fun c9 => absurd c9 (by decide +kernel)) (fun _ => ?_)
    refine lv_iload_n hx hb dX13_spotAt_9 rfl (lv_at hl 1 rfl) ?_
    refine lv_iload_n hx hb dX13_spotAt_10 rfl (lv_at hl 2 rfl) ?_
    refine lv_iload_n hx hb dX13_spotAt_11 rfl (lv_at hl 0 rfl) ?_
    refine lv_ishr hx hb dX13_spotAt_12 ?_
    refine lv_iconst (v := 1) hx hb dX13_spotAt_13 (by decide +kernel) ?_
    refine lv_iand hx hb dX13_spotAt_14 ?_
    refine lv_iadd hx hb dX13_spotAt_15 ?_
    refine lv_topi (fun z_17 ez_17 => ?_)
    refine lv_istore_n (lv' := [(2, .int z_17), (3, .int 1), (0, .int x0), (1, .int 6)]) hx hb dX13_spotAt_16 rfl hl (by decide +kernel) rfl (fun ls hl => ?_)
    refine lv_iinc (v := 2) (lv' := [(3, .int 2), (2, .int z_17), (0, .int x0), (1, .int 6)]) hx hb dX13_spotAt_17 hl (k := 1) rfl (by decide +kernel) (by decide +kernel) rfl (fun ls hl => ?_)
    refine lv_goto (tgt := 4) hx hb dX13_spotAt_20 (by decide +kernel) ?_
    refine lv_iload_n hx hb dX13_spotAt_4 rfl (lv_at hl 0 rfl) ?_
    refine lv_iload_n hx hb dX13_spotAt_5 rfl (lv_at hl 3 rfl) ?_
    refine lv_icmp_ge (tgt := 23) hx hb dX13_spotAt_6 (by decide +kernel) (fun c9 => absurd c9 (by decide +kernel)) (fun _ => ?_)
    refine lv_iload_n hx hb dX13_spotAt_9 rfl (lv_at hl 1 rfl) ?_
    refine lv_iload_n hx hb dX13_spotAt_10 rfl (lv_at hl 2 rfl) ?_
    refine lv_iload_n hx hb dX13_spotAt_11 rfl (lv_at hl 0 rfl) ?_
    refine lv_ishr hx hb dX13_spotAt_12 ?_
    refine lv_iconst (v := 1) hx hb dX13_spotAt_13 (by decide +kernel) ?_
    refine lv_iand hx hb dX13_spotAt_14 ?_
    refine lv_iadd hx hb dX13_spotAt_15 ?_
    refine lv_topi (fun z_18 ez_18 => ?_)
    refine lv_istore_n (lv' := [(2, .int z_18), (3, .int 2), (0, .int x0), (1, .int 6)]) hx hb dX13_spotAt_16 rfl hl (by decide +kernel) rfl (fun ls hl => ?_)
    refine lv_iinc (v := 3) (lv' := [(3, .int 3), (2, .int z_18), (0, .int x0), (1, .int 6)]) hx hb dX13_spotAt_17 hl (k := 1) rfl (by decide +kernel) (by decide +kernel) rfl (fun ls hl => ?_)
    refine lv_goto (tgt := 4) hx hb dX13_spotAt_20 (by decide +kernel) ?_
    refine lv_iload_n hx hb dX13_spotAt_4 rfl (lv_at hl 0 rfl) ?_
    refine lv_iload_n hx hb dX13_spotAt_5 rfl (lv_at hl 3 rfl) ?_
    refine lv_icmp_ge (tgt := 23) hx hb dX13_spotAt_6 (by decide +kernel) (fun c9 => absurd c9 (by decide +kernel)) (fun _ => ?_)
    refine lv_iload_n hx hb dX13_spotAt_9 rfl (lv_at hl 1 rfl) ?_
    refine lv_iload_n hx hb dX13_spotAt_10 rfl (lv_at hl 2 rfl) ?_
    refine lv_iload_n hx hb dX13_spotAt_11 rfl (lv_at hl 0 rfl) ?_
    refine lv_ishr hx hb dX13_spotAt_12 ?_
    refine lv_iconst (v := 1) hx hb dX13_spotAt_13 (by decide +kernel) ?_
    refine lv_iand hx hb dX13_spotAt_14 ?_
    refine lv_iadd hx hb dX13_spotAt_15 ?_
    refine lv_topi (fun z_19 ez_19 => ?_)
    refine lv_istore_n (lv' := [(2, .int z_19), (3, .int 3), (0, .int x0), (1, .int 6)]) hx hb dX13_spotAt_16 rfl hl (by decide +kernel) rfl (fun ls hl => ?_)
    refine lv_iinc (v := 4) (lv' := [(3, .int 4), (2, .int z_19), (0, .int x0), (1, .int 6)]) hx hb dX13_spotAt_17 hl (k := 1) rfl (by decide +kernel) (by decide +kernel) rfl (fun ls hl => ?_)
    refine lv_goto (tgt := 4) hx hb dX13_spotAt_20 (by decide +kernel) ?_
    refine lv_iload_n hx hb dX13_spotAt_4 rfl (lv_at hl 0 rfl) ?_
    refine lv_iload_n hx hb dX13_spotAt_5 rfl (lv_at hl 3 rfl) ?_
    refine lv_icmp_ge (tgt := 23) hx hb dX13_spotAt_6 (by decide +kernel) (fun c9 => absurd c9 (by decide +kernel)) (fun _ => ?_)
    refine lv_iload_n hx hb dX13_spotAt_9 rfl (lv_at hl 1 rfl) ?_
    refine lv_iload_n hx hb dX13_spotAt_10 rfl (lv_at hl 2 rfl) ?_
    refine lv_iload_n hx hb dX13_spotAt_11 rfl (lv_at hl 0 rfl) ?_
    refine lv_ishr hx hb dX13_spotAt_12 ?_
    refine lv_iconst (v := 1) hx hb dX13_spotAt_13 (by decide +kernel) ?_
    refine lv_iand hx hb dX13_spotAt_14 ?_
    refine lv_iadd hx hb dX13_spotAt_15 ?_
    refine lv_topi (fun z_20 ez_20 => ?_)
    refine lv_istore_n (lv' := [(2, .int z_20), (3, .int 4), (0, .int x0), (1, .int 6)]) hx hb dX13_spotAt_16 rfl hl (by decide +kernel) rfl (fun ls hl => ?_)
    refine lv_iinc (v := 5) (lv' := [(3, .int 5), (2, .int z_20), (0, .int x0), (1, .int 6)]) hx hb dX13_spotAt_17 hl (k := 1) rfl (by decide +kernel) (by decide +kernel) rfl (fun ls hl => ?_)
    refine lv_goto (tgt := 4) hx hb dX13_spotAt_20 (by decide +kernel) ?_
    refine lv_iload_n hx hb dX13_spotAt_4 rfl (lv_at hl 0 rfl) ?_
    refine lv_iload_n hx hb dX13_spotAt_5 rfl (lv_at hl 3 rfl) ?_
    refine lv_icmp_ge (tgt := 23) hx hb dX13_spotAt_6 (by decide +kernel) (fun c9 => absurd c9 (by decide +kernel)) (fun _ => ?_)
    refine lv_iload_n hx hb dX13_spotAt_9 rfl (lv_at hl 1 rfl) ?_
    refine lv_iload_n hx hb dX13_spotAt_10 rfl (lv_at hl 2 rfl) ?_
    refine lv_iload_n hx hb dX13_spotAt_11 rfl (lv_at hl 0 rfl) ?_
    refine lv_ishr hx hb dX13_spotAt_12 ?_
    refine lv_iconst (v := 1) hx hb dX13_spotAt_13 (by decide +kernel) ?_
    refine lv_iand hx hb dX13_spotAt_14 ?_
    refine lv_iadd hx hb dX13_spotAt_15 ?_
    refine lv_topi (fun z_21 ez_21 => ?_)
    refine lv_istore_n (lv' := [(2, .int z_21), (3, .int 5), (0, .int x0), (1, .int 6)]) hx hb dX13_spotAt_16 rfl hl (by decide +kernel) rfl (fun ls hl => ?_)
    refine lv_iinc (v := 6) (lv' := [(3, .int 6), (2, .int z_21), (0, .int x0), (1, .int 6)]) hx hb dX13_spotAt_17 hl (k := 1) rfl (by decide +kernel) (by decide +kernel) rfl (fun ls hl => ?_)
    refine lv_goto (tgt := 4) hx hb dX13_spotAt_20 (by decide +kernel) ?_
    refine lv_iload_n hx hb dX13_spotAt_4 rfl (lv_at hl 0 rfl) ?_
    refine lv_iload_n hx hb dX13_spotAt_5 rfl (lv_at hl 3 rfl) ?_
    refine lv_icmp_ge (tgt := 23) hx hb dX13_spotAt_6 (by decide +kernel) (fun _ => ?_) (fun c9 => absurd c9 (by decide +kernel))
    refine lv_iload_n hx hb dX13_spotAt_23 rfl (lv_at hl 1 rfl) ?_
    exact W.iret hx hb hr (fun t ht hW => ⟨_, rfl, (by subst_vars; exact spot_6 hp0), ht⟩) (fun _ h => by cases h) dX13_spotAt_24
theorem dX13_spotOf_0 : decode cX13_spotOf 0 = .ok (.iload_n 1, 1) := by decide +kernel
theorem dX13_spotOf_1 : decode cX13_spotOf 1 = .ok (.invokestatic 198, 3) := by decide +kernel
theorem dX13_spotOf_10 : decode cX13_spotOf 10 = .ok (.ldc2_w 186, 3) := by decide +kernel
theorem dX13_spotOf_13 : decode cX13_spotOf 13 = .ok (.invokestatic 175, 3) := by decide +kernel
theorem dX13_spotOf_16 : decode cX13_spotOf 16 = .ok (.ifCond .eq 11, 3) := by decide +kernel
theorem dX13_spotOf_19 : decode cX13_spotOf 19 = .ok (.iload_n 1, 1) := by decide +kernel
theorem dX13_spotOf_20 : decode cX13_spotOf 20 = .ok (.iload_n 2, 1) := by decide +kernel
theorem dX13_spotOf_21 : decode cX13_spotOf 21 = .ok (.invokestatic 202, 3) := by decide +kernel
theorem dX13_spotOf_24 : decode cX13_spotOf 24 = .ok (.goto 5, 3) := by decide +kernel
theorem dX13_spotOf_27 : decode cX13_spotOf 27 = .ok (.bipush (-2), 2) := by decide +kernel
theorem dX13_spotOf_29 : decode cX13_spotOf 29 = .ok (.ireturn, 1) := by decide +kernel
theorem dX13_spotOf_4 : decode cX13_spotOf 4 = .ok (.ifCond .eq 23, 3) := by decide +kernel
theorem dX13_spotOf_7 : decode cX13_spotOf 7 = .ok (.iload_n 2, 1) := by decide +kernel
theorem dX13_spotOf_8 : decode cX13_spotOf 8 = .ok (.i2l, 1) := by decide +kernel
theorem dX13_spotOf_9 : decode cX13_spotOf 9 = .ok (.lconst 0, 1) := by decide +kernel
set_option maxRecDepth 20000 in
theorem ggX13_spotOf_X13_in : GoodIn wsX13_spotOf wsX13_in := goodIn_r _ [9] rfl (by decide +kernel)
set_option maxRecDepth 20000 in
theorem ggX13_spotOf_X13_isPath : GoodIn wsX13_spotOf wsX13_isPath := goodIn_r _ [5, 6, 7, 8, 4, 9] rfl (by decide +kernel)
set_option maxRecDepth 20000 in
theorem ggX13_spotOf_X13_spotAt : GoodIn wsX13_spotOf wsX13_spotAt := goodIn_r _ [12] rfl (by decide +kernel)
set_option maxRecDepth 20000 in
theorem gX13_spotOf_X13_in : GoodIn wsX13_spotOf (va_wsS RX13 175 yX13_in wsX13_in) := goodIn_app (goodIn_of _ (by decide +kernel)) ggX13_spotOf_X13_in
set_option maxRecDepth 20000 in
theorem gX13_spotOf_X13_isPath : GoodIn wsX13_spotOf (va_wsS RX13 198 yX13_isPath wsX13_isPath) := goodIn_app (goodIn_of _ (by decide +kernel)) ggX13_spotOf_X13_isPath
set_option maxRecDepth 20000 in
theorem gX13_spotOf_X13_spotAt : GoodIn wsX13_spotOf (va_wsS RX13 202 yX13_spotAt wsX13_spotAt) := goodIn_app (goodIn_of _ (by decide +kernel)) ggX13_spotOf_X13_spotAt
theorem hs_X13_spotAt : yX13_spotAt.cls ≠ "java/lang/invoke/MethodHandle" ∧ yX13_spotAt.cls ≠ "java/lang/invoke/VarHandle" ∧ (parseMethodDescriptor yX13_spotAt.desc).map (fun d => d.parameters.length) = some 2 := by decide +kernel
set_option maxHeartbeats 4000000 in
set_option maxRecDepth 100000 in
theorem c_X13_spotOf (l : Launch) (D : va_G) (T : Nat → ClassId) (h0 : Nat) (fs0 : List Value) (x1 : Int32) (x2 : Int32)  : Met l yX13_spotOf wsX13_spotOf ({ frames := 2, cells := 0, slots := 0, locals := 45 }) (pR [.ref h0, .int x1, .int x2] D T [(h0, .inr (10, fs0))]) (vp_Si (fun r => r = sp_spotOf x1 x2)) 0 0 (fun _ => False) := by
  refine Met.ofW (cc := cX13_spotOf) (maxL := 3) (ret := (some .int)) (by decide +kernel) rfl ?_
  intro p e s m args below meth c s₁ B hml hv
  obtain ⟨rfl, hP, hE⟩ := hv
  have hx := B.exec
  have hb := B.bytes
  have hr := B.returns
  have hts := atoms_spec (ws := wsX13_spotOf) B.pre
  have hown : s.vm.findClass RX13 = some m.cls := findClass_of_methodNamed B.named
  have hlocks := B.notSynchronized
  have hP : va_P D vwCl [(h0, .inr (10, fs0))] s.heap := hP
  have hl := lv_entry ([.ref h0, .int x1, .int x2]) (n := 3) (Nat.le_of_ble_eq_true rfl)
  rw [lg_entry_eq]
  generalize (lg_sl ([.ref h0, .int x1, .int x2]) ++ List.replicate (3 - (lg_sl ([.ref h0, .int x1, .int x2])).length) Slot.unset).toArray = ls at hl ⊢
  have hl : lv_has ls 3 [(0, .ref h0), (1, .int x1), (2, .int x2)] := hl
  refine lv_iload_n hx hb dX13_spotOf_0 rfl (lv_at hl 1 rfl) ?_
  refine vp_callSi (W.runS (As := [.int x1]) (rest := []) ⟨hx, hb, hml, hown, hts⟩ (c_X13_isPath l D T x1) (va_cwS 1 hts gX13_spotOf_X13_isPath rfl rfl rfl hs_X13_isPath ⟨Nat.le_of_ble_eq_true rfl, Nat.le_of_ble_eq_true rfl⟩) (pR_S hP hE [] rfl) rfl rfl hl.1 rfl (lv_room (Nat.le_of_ble_eq_true rfl)) dX13_spotOf_1 ⟨Nat.le_of_ble_eq_true rfl, Nat.le_of_ble_eq_true rfl⟩) (fun r_1 hr_1 => ?_)
  rcases bool_post hr_1 with ⟨c_2, rfl⟩ | ⟨c_2, rfl⟩
  · refine lv_if_eq (tgt := 27) hx hb dX13_spotOf_4 (by decide +kernel) (fun c9 => absurd c9 (by decide +kernel)) (fun _ => ?_)
    refine lv_iload_n hx hb dX13_spotOf_7 rfl (lv_at hl 2 rfl) ?_
    refine lv_i2l hx hb dX13_spotOf_8 rfl ?_
    refine lv_lconst (v := 0) hx hb dX13_spotOf_9 (by decide +kernel) ?_
    refine lv_ldc2 (v := 6) hx hb hown (hts (.constantLong RX13 186 (6)) (List.mem_of_getElem? (i := 1) rfl)) dX13_spotOf_10 ?_
    refine vp_callSi (W.runS (As := [.long (x2.toInt64), .long 0, .long 6]) (rest := []) ⟨hx, hb, hml, hown, hts⟩ (c_X13_in l D T (x2.toInt64) 0 6 x2.toInt 0 6 ((Int32.toInt_toInt64 _).trans rfl) (by decide +kernel) (by decide +kernel)) (va_cwS 3 hts gX13_spotOf_X13_in rfl rfl rfl hs_X13_in ⟨Nat.le_of_ble_eq_true rfl, Nat.le_of_ble_eq_true rfl⟩) (pR_S hP hE [] rfl) rfl rfl hl.1 rfl (lv_room (Nat.le_of_ble_eq_true rfl)) dX13_spotOf_13 ⟨Nat.le_of_ble_eq_true rfl, Nat.le_of_ble_eq_true rfl⟩) (fun r_3 hr_3 => ?_)
    rcases bool_post hr_3 with ⟨c_4, rfl⟩ | ⟨c_4, rfl⟩
    · refine lv_if_eq (tgt := 27) hx hb dX13_spotOf_16 (by decide +kernel) (fun c9 => absurd c9 (by decide +kernel)) (fun _ => ?_)
      refine lv_iload_n hx hb dX13_spotOf_19 rfl (lv_at hl 1 rfl) ?_
      refine lv_iload_n hx hb dX13_spotOf_20 rfl (lv_at hl 2 rfl) ?_
      refine vp_callSi (W.runS (As := [.int x1, .int x2]) (rest := []) ⟨hx, hb, hml, hown, hts⟩ (c_X13_spotAt l D T x1 x2 (by omega) (by omega)) (va_cwS 2 hts gX13_spotOf_X13_spotAt rfl rfl rfl hs_X13_spotAt ⟨Nat.le_of_ble_eq_true rfl, Nat.le_of_ble_eq_true rfl⟩) (pR_S hP hE [] rfl) rfl rfl hl.1 rfl (lv_room (Nat.le_of_ble_eq_true rfl)) dX13_spotOf_21 ⟨Nat.le_of_ble_eq_true rfl, Nat.le_of_ble_eq_true rfl⟩) (fun r_5 hr_5 => ?_)
      obtain rfl : (sp_bits (x1 &&& ((1 <<< (x2 &&& 31)) - 1))) = r_5 := (hr_5).symm
      refine lv_goto (tgt := 29) hx hb dX13_spotOf_24 (by decide +kernel) ?_
      exact W.iret hx hb hr (fun t ht hW => ⟨_, rfl, (by first | decide | (unfold sp_spotOf; (repeat' split) <;> first | rfl | (exfalso; omega))), ht⟩) (fun _ h => by cases h) dX13_spotOf_29
    · refine lv_if_eq (tgt := 27) hx hb dX13_spotOf_16 (by decide +kernel) (fun _ => ?_) (fun c9 => absurd c9 (by decide +kernel))
      refine lv_bipush (v := (-2)) hx hb dX13_spotOf_27 (by decide +kernel) ?_
      exact W.iret hx hb hr (fun t ht hW => ⟨_, rfl, (by first | decide | (unfold sp_spotOf; (repeat' split) <;> first | rfl | (exfalso; omega))), ht⟩) (fun _ h => by cases h) dX13_spotOf_29
  · refine lv_if_eq (tgt := 27) hx hb dX13_spotOf_4 (by decide +kernel) (fun _ => ?_) (fun c9 => absurd c9 (by decide +kernel))
    refine lv_bipush (v := (-2)) hx hb dX13_spotOf_27 (by decide +kernel) ?_
    exact W.iret hx hb hr (fun t ht hW => ⟨_, rfl, (by first | decide | (unfold sp_spotOf; (repeat' split) <;> first | rfl | (exfalso; omega))), ht⟩) (fun _ h => by cases h) dX13_spotOf_29
theorem dv_back {yy zz n : Int64} {G : Nat} (h : Nat.gcd yy.toInt.natAbs zz.toInt.natAbs = G) (hz : zz.toInt ≠ 0) (hc : -9223372036854775808 < yy.toInt ∨ 1 ≤ zz.toInt) (hn : n = yy - yy / zz * zz) : Nat.gcd zz.toInt.natAbs n.toInt.natAbs = G := by
  rw [← h]
  exact gcd_turn (by rw [hn, l_rem hz hc, Int.natAbs_tmod])
theorem dv_end {x y yy zz r : Int64} (hy : 1 ≤ y.toInt) (h : Nat.gcd yy.toInt.natAbs zz.toInt.natAbs = Nat.gcd x.toInt.natAbs y.toInt.natAbs) (hz : zz.toInt = 0) (hr : r.toInt = (yy.toInt.natAbs : Int)) : r = gI x y := by
  refine gI_eq hy ?_
  rw [← h, hz, hr]
  show (yy.toInt.natAbs : Int) = ((Nat.gcd yy.toInt.natAbs 0 : Nat) : Int)
  rw [Nat.gcd_zero_right]
theorem dX13_divisor_0 : decode cX13_divisor 0 = .ok (.lload_n 0, 1) := by decide +kernel
theorem dX13_divisor_1 : decode cX13_divisor 1 = .ok (.lstore 4, 2) := by decide +kernel
theorem dX13_divisor_10 : decode cX13_divisor 10 = .ok (.ifCond .eq 21, 3) := by decide +kernel
theorem dX13_divisor_13 : decode cX13_divisor 13 = .ok (.lload 4, 2) := by decide +kernel
theorem dX13_divisor_15 : decode cX13_divisor 15 = .ok (.lload 6, 2) := by decide +kernel
theorem dX13_divisor_17 : decode cX13_divisor 17 = .ok (.lrem, 1) := by decide +kernel
theorem dX13_divisor_18 : decode cX13_divisor 18 = .ok (.lstore 8, 2) := by decide +kernel
theorem dX13_divisor_20 : decode cX13_divisor 20 = .ok (.lload 6, 2) := by decide +kernel
theorem dX13_divisor_22 : decode cX13_divisor 22 = .ok (.lstore 4, 2) := by decide +kernel
theorem dX13_divisor_24 : decode cX13_divisor 24 = .ok (.lload 8, 2) := by decide +kernel
theorem dX13_divisor_26 : decode cX13_divisor 26 = .ok (.lstore 6, 2) := by decide +kernel
theorem dX13_divisor_28 : decode cX13_divisor 28 = .ok (.goto (-22), 3) := by decide +kernel
theorem dX13_divisor_3 : decode cX13_divisor 3 = .ok (.lload_n 2, 1) := by decide +kernel
theorem dX13_divisor_31 : decode cX13_divisor 31 = .ok (.lload 4, 2) := by decide +kernel
theorem dX13_divisor_33 : decode cX13_divisor 33 = .ok (.lconst 0, 1) := by decide +kernel
theorem dX13_divisor_34 : decode cX13_divisor 34 = .ok (.lcmp, 1) := by decide +kernel
theorem dX13_divisor_35 : decode cX13_divisor 35 = .ok (.ifCond .ge 9, 3) := by decide +kernel
theorem dX13_divisor_38 : decode cX13_divisor 38 = .ok (.lload 4, 2) := by decide +kernel
theorem dX13_divisor_4 : decode cX13_divisor 4 = .ok (.lstore 6, 2) := by decide +kernel
theorem dX13_divisor_40 : decode cX13_divisor 40 = .ok (.lneg, 1) := by decide +kernel
theorem dX13_divisor_41 : decode cX13_divisor 41 = .ok (.goto 5, 3) := by decide +kernel
theorem dX13_divisor_44 : decode cX13_divisor 44 = .ok (.lload 4, 2) := by decide +kernel
theorem dX13_divisor_46 : decode cX13_divisor 46 = .ok (.lreturn, 1) := by decide +kernel
theorem dX13_divisor_6 : decode cX13_divisor 6 = .ok (.lload 6, 2) := by decide +kernel
theorem dX13_divisor_8 : decode cX13_divisor 8 = .ok (.lconst 0, 1) := by decide +kernel
theorem dX13_divisor_9 : decode cX13_divisor 9 = .ok (.lcmp, 1) := by decide +kernel
set_option maxHeartbeats 4000000 in
set_option maxRecDepth 100000 in
theorem c_X13_divisor (l : Launch) (D : va_G) (T : Nat → ClassId) (x0 : Int64) (x1 : Int64) (hq : 1 ≤ x1.toInt) : Met l yX13_divisor wsX13_divisor ({ frames := 0, cells := 0, slots := 0, locals := 0 }) (pR [.long x0, .long x1] D T []) (vp_Sl (fun r => r = gI x0 x1 ∧ 1 ≤ r.toInt ∧ r.toInt ≤ x1.toInt)) 0 0 (fun _ => False) := by
  refine Met.ofW (cc := cX13_divisor) (maxL := 10) (ret := (some .long)) (by decide +kernel) rfl ?_
  intro p e s m args below meth c s₁ B hml hv
  obtain ⟨rfl, hP, hE⟩ := hv
  have hx := B.exec
  have hb := B.bytes
  have hr := B.returns
  have hts := atoms_spec (ws := wsX13_divisor) B.pre
  have hown : s.vm.findClass RX13 = some m.cls := findClass_of_methodNamed B.named
  have hlocks := B.notSynchronized
  have hP : va_P D vwCl [] s.heap := hP
  have hl := lv_entry ([.long x0, .long x1]) (n := 10) (Nat.le_of_ble_eq_true rfl)
  rw [lg_entry_eq]
  generalize (lg_sl ([.long x0, .long x1]) ++ List.replicate (10 - (lg_sl ([.long x0, .long x1])).length) Slot.unset).toArray = ls at hl ⊢
  have hl : lv_has ls 10 [(0, .long x0), (2, .long x1)] := hl
  refine lv_lload_n hx hb dX13_divisor_0 rfl (lv_at hl 0 rfl) ?_
  refine lv_lstore (lv' := [(4, .long x0), (0, .long x0), (2, .long x1)]) hx hb dX13_divisor_1 hl (by decide +kernel) rfl (fun ls hl => ?_)
  refine lv_lload_n hx hb dX13_divisor_3 rfl (lv_at hl 2 rfl) ?_
  refine lv_lstore (lv' := [(6, .long x1), (4, .long x0), (0, .long x0), (2, .long x1)]) hx hb dX13_divisor_4 hl (by decide +kernel) rfl (fun ls hl => ?_)
  refine loopR (σ := (Int64) × (Int64)) (fun x9 ls => lv_has ls 10 [(4, .long x9.1), (6, .long x9.2), (0, .long x0), (2, .long x1)] ∧ ((x9.2.toInt = x1.toInt ∨ (x9.2.toInt.natAbs < x9.1.toInt.natAbs ∧ x9.1.toInt.natAbs ≤ x1.toInt.natAbs)) ∧ Nat.gcd x9.1.toInt.natAbs x9.2.toInt.natAbs = Nat.gcd x0.toInt.natAbs x1.toInt.natAbs)) (fun x9 => x9.2.toInt.natAbs) (fun x9 ls hI ih => ?_) (x0, x1) ls ⟨lv_sub hl [1, 0, 2, 3] rfl, ⟨Or.inl rfl, rfl⟩⟩
  obtain ⟨yy, zz⟩ := x9
  obtain ⟨hl, hinv⟩ := hI
  have hl : lv_has ls 10 [(4, .long yy), (6, .long zz), (0, .long x0), (2, .long x1)] := hl
  have hinv : (zz.toInt = x1.toInt ∨ (zz.toInt.natAbs < yy.toInt.natAbs ∧ yy.toInt.natAbs ≤ x1.toInt.natAbs)) ∧ Nat.gcd yy.toInt.natAbs zz.toInt.natAbs = Nat.gcd x0.toInt.natAbs x1.toInt.natAbs := hinv
  refine lv_lload hx hb dX13_divisor_6 (lv_at hl 1 rfl) ?_
  refine lv_lconst (v := 0) hx hb dX13_divisor_8 (by decide +kernel) ?_
  refine W.lcmp hx hb dX13_divisor_9 ?_
  refine lv_if_eq (tgt := 31) hx hb dX13_divisor_10 (by decide +kernel) (fun c_1 => ?_) (fun c_1 => ?_)
  · rw [lcmp_eq] at c_1
    try rw [tl_0] at c_1
    refine lv_lload hx hb dX13_divisor_31 (lv_at hl 0 rfl) ?_
    refine lv_lconst (v := 0) hx hb dX13_divisor_33 (by decide +kernel) ?_
    refine W.lcmp hx hb dX13_divisor_34 ?_
    refine lv_if_ge (tgt := 44) hx hb dX13_divisor_35 (by decide +kernel) (fun c_2 => ?_) (fun c_2 => ?_)
    · rw [lcmp_ge] at c_2
      try rw [tl_0] at c_2
      refine lv_lload hx hb dX13_divisor_44 (lv_at hl 0 rfl) ?_
      exact W.lret hx hb hr (fun t ht hW => ⟨_, rfl, (by have h8 := l_rng x1; have h7 := hinv.1; have h6 : (yy).toInt = (yy.toInt.natAbs : Int) := (by first | omega | (rw [l_neg (by omega)]; omega)); have h5 := dv_end hq hinv.2 (by omega) h6; refine ⟨h5, ?_⟩; rw [h5]; exact (gI_toInt hq).2), ht⟩) (fun _ h => by cases h) dX13_divisor_46
    · rw [lcmp_ge] at c_2
      try rw [tl_0] at c_2
      refine lv_lload hx hb dX13_divisor_38 (lv_at hl 0 rfl) ?_
      refine lv_lneg hx hb dX13_divisor_40 ?_
      refine lv_goto (tgt := 46) hx hb dX13_divisor_41 (by decide +kernel) ?_
      exact W.lret hx hb hr (fun t ht hW => ⟨_, rfl, (by have h8 := l_rng x1; have h7 := hinv.1; have h6 : ((-yy)).toInt = (yy.toInt.natAbs : Int) := (by first | omega | (rw [l_neg (by omega)]; omega)); have h5 := dv_end hq hinv.2 (by omega) h6; refine ⟨h5, ?_⟩; rw [h5]; exact (gI_toInt hq).2), ht⟩) (fun _ h => by cases h) dX13_divisor_46
  · rw [lcmp_eq] at c_1
    try rw [tl_0] at c_1
    refine lv_lload hx hb dX13_divisor_13 (lv_at hl 0 rfl) ?_
    refine lv_lload hx hb dX13_divisor_15 (lv_at hl 1 rfl) ?_
    refine lv_lrem hx hb dX13_divisor_17 (nz64 (by omega)) ?_
    refine lv_topl (fun z_3 ez_3 => ?_)
    refine lv_lstore (lv' := [(8, .long z_3), (4, .long yy), (6, .long zz), (0, .long x0), (2, .long x1)]) hx hb dX13_divisor_18 hl (by decide +kernel) rfl (fun ls hl => ?_)
    refine lv_lload hx hb dX13_divisor_20 (lv_at hl 2 rfl) ?_
    refine lv_lstore (lv' := [(4, .long zz), (8, .long z_3), (6, .long zz), (0, .long x0), (2, .long x1)]) hx hb dX13_divisor_22 hl (by decide +kernel) rfl (fun ls hl => ?_)
    refine lv_lload hx hb dX13_divisor_24 (lv_at hl 1 rfl) ?_
    refine lv_lstore (lv' := [(6, .long z_3), (4, .long zz), (8, .long z_3), (0, .long x0), (2, .long x1)]) hx hb dX13_divisor_26 hl (by decide +kernel) rfl (fun ls hl => ?_)
    refine lv_goto (tgt := 6) hx hb dX13_divisor_28 (by decide +kernel) ?_
    exact ih (zz, z_3) ls ⟨lv_sub hl [1, 0, 3, 4] rfl, ⟨(by subst_vars; (try dsimp only); have h9 := rem_abs yy zz (by omega); have h8 := hinv.1; omega), dv_back (yy := yy) (zz := zz) hinv.2 (by omega) (by have h8 : zz.toInt = x1.toInt ∨ (zz.toInt.natAbs < yy.toInt.natAbs ∧ yy.toInt.natAbs ≤ x1.toInt.natAbs) := hinv.1; have h7 := l_rng x1; omega) ez_3⟩⟩ (by subst_vars; exact rem_abs _ _ (by omega))
set_option maxHeartbeats 4000000 in
set_option maxRecDepth 100000 in
theorem c2_J9_floorDiv (l : Launch) (D : va_G) (T : Nat → ClassId) (x0 : Int64) (x1 : Int64) (hnz : 1 ≤ x1.toInt) : Met l yJ9_floorDiv_f86c9 wsJ9_floorDiv_f86c9 ({ frames := 0, cells := 0, slots := 0, locals := 0 }) (pR [.long x0, .long x1] D T []) (vp_Sl (fun r => r.toInt = x0.toInt / x1.toInt)) 0 0 (fun _ => False) := by
  refine nw_ofWF (cc := cJ9_floorDiv_f86c9) (maxL := 6) (ret := (some .long)) (by decide +kernel) rfl ?_
  intro p e s m args below meth c s₁ B hml hv
  obtain ⟨rfl, hP, hE⟩ := hv
  have hx := B.exec
  have hb := B.bytes
  have hr := B.returns
  have hts := atoms_spec (ws := wsJ9_floorDiv_f86c9) B.pre
  have hown : s.vm.findClass RJ9 = some m.cls := findClass_of_methodNamed B.named
  have hlocks := B.notSynchronized
  have hP : va_P D vwCl [] s.heap := hP
  have hl := lv_entry ([.long x0, .long x1]) (n := 6) (Nat.le_of_ble_eq_true rfl)
  rw [lg_entry_eq]
  generalize (lg_sl ([.long x0, .long x1]) ++ List.replicate (6 - (lg_sl ([.long x0, .long x1])).length) Slot.unset).toArray = ls at hl ⊢
  have hl : lv_has ls 6 [(0, .long x0), (2, .long x1)] := hl
  refine lv_lload_n hx hb dJ9_floorDiv_f86c9_0 rfl (lv_at hl 0 rfl) ?_
  refine lv_lload_n hx hb dJ9_floorDiv_f86c9_1 rfl (lv_at hl 1 rfl) ?_
  refine lv_ldiv hx hb dJ9_floorDiv_f86c9_2 (nz64 (by omega)) ?_
  refine lv_topl (fun z_1 ez_1 => ?_)
  refine lv_lstore (lv' := [(4, .long z_1), (0, .long x0), (2, .long x1)]) hx hb dJ9_floorDiv_f86c9_3 hl (by decide +kernel) rfl (fun ls hl => ?_)
  refine lv_lload_n hx hb dJ9_floorDiv_f86c9_5 rfl (lv_at hl 1 rfl) ?_
  refine lv_lload_n hx hb dJ9_floorDiv_f86c9_6 rfl (lv_at hl 2 rfl) ?_
  refine lv_lxor hx hb dJ9_floorDiv_f86c9_7 ?_
  refine lv_lconst (v := 0) hx hb dJ9_floorDiv_f86c9_8 (by decide +kernel) ?_
  refine W.lcmp hx hb dJ9_floorDiv_f86c9_9 ?_
  refine lv_if_ge (tgt := 27) hx hb dJ9_floorDiv_f86c9_10 (by decide +kernel) (fun c_2 => ?_) (fun c_2 => ?_)
  · rw [lcmp_ge] at c_2
    try rw [tl_0] at c_2
    refine lv_lload hx hb dJ9_floorDiv_f86c9_27 (lv_at hl 0 rfl) ?_
    exact W.lret hx hb hr (fun t ht hW => ⟨_, rfl, (by first | exact fdA hnz (by assumption) (by omega) | exact fdB hnz (by assumption) (by omega) (by assumption) | exact fdC hnz (by assumption) (by omega) (by assumption)), ht⟩) (fun _ h => by cases h) dJ9_floorDiv_f86c9_29
  · rw [lcmp_ge] at c_2
    try rw [tl_0] at c_2
    refine lv_lload hx hb dJ9_floorDiv_f86c9_13 (lv_at hl 0 rfl) ?_
    refine lv_lload_n hx hb dJ9_floorDiv_f86c9_15 rfl (lv_at hl 2 rfl) ?_
    refine lv_lmul hx hb dJ9_floorDiv_f86c9_16 ?_
    refine lv_lload_n hx hb dJ9_floorDiv_f86c9_17 rfl (lv_at hl 1 rfl) ?_
    refine W.lcmp hx hb dJ9_floorDiv_f86c9_18 ?_
    refine lv_if_eq (tgt := 27) hx hb dJ9_floorDiv_f86c9_19 (by decide +kernel) (fun c_3 => ?_) (fun c_3 => ?_)
    · rw [lcmp_eq] at c_3
      refine lv_lload hx hb dJ9_floorDiv_f86c9_27 (lv_at hl 0 rfl) ?_
      exact W.lret hx hb hr (fun t ht hW => ⟨_, rfl, (by first | exact fdA hnz (by assumption) (by omega) | exact fdB hnz (by assumption) (by omega) (by assumption) | exact fdC hnz (by assumption) (by omega) (by assumption)), ht⟩) (fun _ h => by cases h) dJ9_floorDiv_f86c9_29
    · rw [lcmp_eq] at c_3
      refine lv_lload hx hb dJ9_floorDiv_f86c9_22 (lv_at hl 0 rfl) ?_
      refine lv_lconst (v := 1) hx hb dJ9_floorDiv_f86c9_24 (by decide +kernel) ?_
      refine lv_lsub hx hb dJ9_floorDiv_f86c9_25 ?_
      exact W.lret hx hb hr (fun t ht hW => ⟨_, rfl, (by first | exact fdA hnz (by assumption) (by omega) | exact fdB hnz (by assumption) (by omega) (by assumption) | exact fdC hnz (by assumption) (by omega) (by assumption)), ht⟩) (fun _ h => by cases h) dJ9_floorDiv_f86c9_26
def cC_compared (l : Launch) (D : va_G) (T : Nat → ClassId) (k : Nat) : Prop := ∀ (x0 x1 x2 x3 : Int64) (_ : 1 ≤ x1.toInt) (_ : 1 ≤ x3.toInt) (_ : (x2.toInt % x3.toInt) * x1.toInt + 1 < 2 ^ k), Met l yX13_compared wsX13_compared ({ frames := k + 2, cells := 0, slots := 0, locals := 40 * k + 60 }) (pR [.long x0, .long x1, .long x2, .long x3] D T []) (vp_Si (fun r => r.toInt = cmpW x0.toInt x1.toInt x2.toInt x3.toInt)) 0 0 (fun _ => False)
theorem dX13_compared_0 : decode cX13_compared 0 = .ok (.lload_n 0, 1) := by decide +kernel
theorem dX13_compared_1 : decode cX13_compared 1 = .ok (.lload_n 2, 1) := by decide +kernel
theorem dX13_compared_101 : decode cX13_compared 101 = .ok (.lload_n 2, 1) := by decide +kernel
theorem dX13_compared_102 : decode cX13_compared 102 = .ok (.lload 12, 2) := by decide +kernel
theorem dX13_compared_104 : decode cX13_compared 104 = .ok (.invokestatic 167, 3) := by decide +kernel
theorem dX13_compared_107 : decode cX13_compared 107 = .ok (.ireturn, 1) := by decide +kernel
theorem dX13_compared_11 : decode cX13_compared 11 = .ok (.invokestatic 162, 3) := by decide +kernel
theorem dX13_compared_14 : decode cX13_compared 14 = .ok (.lstore 10, 2) := by decide +kernel
theorem dX13_compared_16 : decode cX13_compared 16 = .ok (.lload 8, 2) := by decide +kernel
theorem dX13_compared_18 : decode cX13_compared 18 = .ok (.lload 10, 2) := by decide +kernel
theorem dX13_compared_2 : decode cX13_compared 2 = .ok (.invokestatic 162, 3) := by decide +kernel
theorem dX13_compared_20 : decode cX13_compared 20 = .ok (.lcmp, 1) := by decide +kernel
theorem dX13_compared_21 : decode cX13_compared 21 = .ok (.ifCond .eq 17, 3) := by decide +kernel
theorem dX13_compared_24 : decode cX13_compared 24 = .ok (.lload 8, 2) := by decide +kernel
theorem dX13_compared_26 : decode cX13_compared 26 = .ok (.lload 10, 2) := by decide +kernel
theorem dX13_compared_28 : decode cX13_compared 28 = .ok (.lcmp, 1) := by decide +kernel
theorem dX13_compared_29 : decode cX13_compared 29 = .ok (.ifCond .ge 7, 3) := by decide +kernel
theorem dX13_compared_32 : decode cX13_compared 32 = .ok (.iconst (-1), 1) := by decide +kernel
theorem dX13_compared_33 : decode cX13_compared 33 = .ok (.goto 4, 3) := by decide +kernel
theorem dX13_compared_36 : decode cX13_compared 36 = .ok (.iconst 1, 1) := by decide +kernel
theorem dX13_compared_37 : decode cX13_compared 37 = .ok (.ireturn, 1) := by decide +kernel
theorem dX13_compared_38 : decode cX13_compared 38 = .ok (.lload_n 0, 1) := by decide +kernel
theorem dX13_compared_39 : decode cX13_compared 39 = .ok (.lload 8, 2) := by decide +kernel
theorem dX13_compared_41 : decode cX13_compared 41 = .ok (.lload_n 2, 1) := by decide +kernel
theorem dX13_compared_42 : decode cX13_compared 42 = .ok (.lmul, 1) := by decide +kernel
theorem dX13_compared_43 : decode cX13_compared 43 = .ok (.lsub, 1) := by decide +kernel
theorem dX13_compared_44 : decode cX13_compared 44 = .ok (.lstore 12, 2) := by decide +kernel
theorem dX13_compared_46 : decode cX13_compared 46 = .ok (.lload 4, 2) := by decide +kernel
theorem dX13_compared_48 : decode cX13_compared 48 = .ok (.lload 10, 2) := by decide +kernel
theorem dX13_compared_5 : decode cX13_compared 5 = .ok (.lstore 8, 2) := by decide +kernel
theorem dX13_compared_50 : decode cX13_compared 50 = .ok (.lload 6, 2) := by decide +kernel
theorem dX13_compared_52 : decode cX13_compared 52 = .ok (.lmul, 1) := by decide +kernel
theorem dX13_compared_53 : decode cX13_compared 53 = .ok (.lsub, 1) := by decide +kernel
theorem dX13_compared_54 : decode cX13_compared 54 = .ok (.lstore 14, 2) := by decide +kernel
theorem dX13_compared_56 : decode cX13_compared 56 = .ok (.lload 12, 2) := by decide +kernel
theorem dX13_compared_58 : decode cX13_compared 58 = .ok (.lconst 0, 1) := by decide +kernel
theorem dX13_compared_59 : decode cX13_compared 59 = .ok (.lcmp, 1) := by decide +kernel
theorem dX13_compared_60 : decode cX13_compared 60 = .ok (.ifCond .eq 10, 3) := by decide +kernel
theorem dX13_compared_63 : decode cX13_compared 63 = .ok (.lload 14, 2) := by decide +kernel
theorem dX13_compared_65 : decode cX13_compared 65 = .ok (.lconst 0, 1) := by decide +kernel
theorem dX13_compared_66 : decode cX13_compared 66 = .ok (.lcmp, 1) := by decide +kernel
theorem dX13_compared_67 : decode cX13_compared 67 = .ok (.ifCond .ne 30, 3) := by decide +kernel
theorem dX13_compared_7 : decode cX13_compared 7 = .ok (.lload 4, 2) := by decide +kernel
theorem dX13_compared_70 : decode cX13_compared 70 = .ok (.lload 12, 2) := by decide +kernel
theorem dX13_compared_72 : decode cX13_compared 72 = .ok (.lload 14, 2) := by decide +kernel
theorem dX13_compared_74 : decode cX13_compared 74 = .ok (.lcmp, 1) := by decide +kernel
theorem dX13_compared_75 : decode cX13_compared 75 = .ok (.ifCond .ne 7, 3) := by decide +kernel
theorem dX13_compared_78 : decode cX13_compared 78 = .ok (.iconst 0, 1) := by decide +kernel
theorem dX13_compared_79 : decode cX13_compared 79 = .ok (.goto 28, 3) := by decide +kernel
theorem dX13_compared_82 : decode cX13_compared 82 = .ok (.lload 12, 2) := by decide +kernel
theorem dX13_compared_84 : decode cX13_compared 84 = .ok (.lconst 0, 1) := by decide +kernel
theorem dX13_compared_85 : decode cX13_compared 85 = .ok (.lcmp, 1) := by decide +kernel
theorem dX13_compared_86 : decode cX13_compared 86 = .ok (.ifCond .ne 7, 3) := by decide +kernel
theorem dX13_compared_89 : decode cX13_compared 89 = .ok (.iconst (-1), 1) := by decide +kernel
theorem dX13_compared_9 : decode cX13_compared 9 = .ok (.lload 6, 2) := by decide +kernel
theorem dX13_compared_90 : decode cX13_compared 90 = .ok (.goto 17, 3) := by decide +kernel
theorem dX13_compared_93 : decode cX13_compared 93 = .ok (.iconst 1, 1) := by decide +kernel
theorem dX13_compared_94 : decode cX13_compared 94 = .ok (.goto 13, 3) := by decide +kernel
theorem dX13_compared_97 : decode cX13_compared 97 = .ok (.lload 6, 2) := by decide +kernel
theorem dX13_compared_99 : decode cX13_compared 99 = .ok (.lload 14, 2) := by decide +kernel
set_option maxRecDepth 20000 in
theorem ggX13_compared_J9_floorDiv_f86c9 : GoodIn wsX13_compared wsJ9_floorDiv_f86c9 := goodIn_r _ [4] rfl (by decide +kernel)
set_option maxRecDepth 20000 in
theorem ggX13_compared_X13_compared : GoodIn wsX13_compared wsX13_compared := goodIn_r _ [0, 1, 2, 3, 4, 5, 6, 7] rfl (by decide +kernel)
set_option maxRecDepth 20000 in
theorem gX13_compared_J9_floorDiv_f86c9 : GoodIn wsX13_compared (va_wsS RX13 162 yJ9_floorDiv_f86c9 wsJ9_floorDiv_f86c9) := goodIn_app (goodIn_of _ (by decide +kernel)) ggX13_compared_J9_floorDiv_f86c9
set_option maxRecDepth 20000 in
theorem gX13_compared_X13_compared : GoodIn wsX13_compared (va_wsS RX13 167 yX13_compared wsX13_compared) := goodIn_app (goodIn_of _ (by decide +kernel)) ggX13_compared_X13_compared
theorem hs_X13_compared : yX13_compared.cls ≠ "java/lang/invoke/MethodHandle" ∧ yX13_compared.cls ≠ "java/lang/invoke/VarHandle" ∧ (parseMethodDescriptor yX13_compared.desc).map (fun d => d.parameters.length) = some 4 := by decide +kernel
set_option maxHeartbeats 4000000 in
set_option maxRecDepth 100000 in
theorem s_X13_compared (l : Launch) (D : va_G) (T : Nat → ClassId) (x0 : Int64) (x1 : Int64) (x2 : Int64) (x3 : Int64) (k : Nat) (hb1 : 1 ≤ x1.toInt) (hd1 : 1 ≤ x3.toInt) (hk : (x2.toInt % x3.toInt) * x1.toInt + 1 < 2 ^ (k + 1)) (hrec : cC_compared l D T k) : Met l yX13_compared wsX13_compared ({ frames := (k + 1) + 2, cells := 0, slots := 0, locals := 40 * (k + 1) + 60 }) (pR [.long x0, .long x1, .long x2, .long x3] D T []) (vp_Si (fun r => r.toInt = cmpW x0.toInt x1.toInt x2.toInt x3.toInt)) 0 0 (fun _ => False) := by
  refine Met.ofW (cc := cX13_compared) (maxL := 16) (ret := (some .int)) (by decide +kernel) rfl ?_
  intro p e s m args below meth c s₁ B hml hv
  obtain ⟨rfl, hP, hE⟩ := hv
  have hx := B.exec
  have hb := B.bytes
  have hr := B.returns
  have hts := atoms_spec (ws := wsX13_compared) B.pre
  have hown : s.vm.findClass RX13 = some m.cls := findClass_of_methodNamed B.named
  have hlocks := B.notSynchronized
  have hP : va_P D vwCl [] s.heap := hP
  have hl := lv_entry ([.long x0, .long x1, .long x2, .long x3]) (n := 16) (Nat.le_of_ble_eq_true rfl)
  rw [lg_entry_eq]
  generalize (lg_sl ([.long x0, .long x1, .long x2, .long x3]) ++ List.replicate (16 - (lg_sl ([.long x0, .long x1, .long x2, .long x3])).length) Slot.unset).toArray = ls at hl ⊢
  have hl : lv_has ls 16 [(0, .long x0), (2, .long x1), (4, .long x2), (6, .long x3)] := hl
  refine lv_lload_n hx hb dX13_compared_0 rfl (lv_at hl 0 rfl) ?_
  refine lv_lload_n hx hb dX13_compared_1 rfl (lv_at hl 1 rfl) ?_
  refine vp_callSl (W.runS (As := [.long x0, .long x1]) (rest := []) ⟨hx, hb, hml, hown, hts⟩ (c2_J9_floorDiv l D T x0 x1 (by omega)) (va_cwS 2 hts gX13_compared_J9_floorDiv_f86c9 rfl rfl rfl hs_J9_floorDiv_f86c9 ⟨(show _ ≤ ((k + 1) + 2 : Nat) from by (try dsimp only); omega), (show _ ≤ (40 * (k + 1) + 60 : Nat) from by (try dsimp only); omega)⟩) (pR_S hP hE [] rfl) rfl rfl hl.1 rfl (lv_room (Nat.le_of_ble_eq_true rfl)) dX13_compared_2 ⟨Nat.le_of_ble_eq_true rfl, Nat.le_of_ble_eq_true rfl⟩) (fun r_1 hr_1 => ?_)
  refine lv_lstore (lv' := [(8, .long r_1), (0, .long x0), (2, .long x1), (4, .long x2), (6, .long x3)]) hx hb dX13_compared_5 hl (by decide +kernel) rfl (fun ls hl => ?_)
  refine lv_lload hx hb dX13_compared_7 (lv_at hl 3 rfl) ?_
  refine lv_lload hx hb dX13_compared_9 (lv_at hl 4 rfl) ?_
  refine vp_callSl (W.runS (As := [.long x2, .long x3]) (rest := []) ⟨hx, hb, hml, hown, hts⟩ (c2_J9_floorDiv l D T x2 x3 (by omega)) (va_cwS 2 hts gX13_compared_J9_floorDiv_f86c9 rfl rfl rfl hs_J9_floorDiv_f86c9 ⟨(show _ ≤ ((k + 1) + 2 : Nat) from by (try dsimp only); omega), (show _ ≤ (40 * (k + 1) + 60 : Nat) from by (try dsimp only); omega)⟩) (pR_S hP hE [] rfl) rfl rfl hl.1 rfl (lv_room (Nat.le_of_ble_eq_true rfl)) dX13_compared_11 ⟨Nat.le_of_ble_eq_true rfl, Nat.le_of_ble_eq_true rfl⟩) (fun r_2 hr_2 => ?_)
  refine lv_lstore (lv' := [(10, .long r_2), (8, .long r_1), (0, .long x0), (2, .long x1), (4, .long x2), (6, .long x3)]) hx hb dX13_compared_14 hl (by decide +kernel) rfl (fun ls hl => ?_)
  refine lv_lload hx hb dX13_compared_16 (lv_at hl 1 rfl) ?_
  refine lv_lload hx hb dX13_compared_18 (lv_at hl 0 rfl) ?_
  refine W.lcmp hx hb dX13_compared_20 ?_
  refine lv_if_eq (tgt := 38) hx hb dX13_compared_21 (by decide +kernel) (fun c_3 => ?_) (fun c_3 => ?_)
  · rw [lcmp_eq] at c_3
    refine lv_lload_n hx hb dX13_compared_38 rfl (lv_at hl 2 rfl) ?_
    refine lv_lload hx hb dX13_compared_39 (lv_at hl 1 rfl) ?_
    refine lv_lload_n hx hb dX13_compared_41 rfl (lv_at hl 3 rfl) ?_
    refine lv_lmul hx hb dX13_compared_42 ?_
    refine lv_lsub hx hb dX13_compared_43 ?_
    refine lv_topl (fun z_4 ez_4 => ?_)
    refine lv_lstore (lv' := [(12, .long z_4), (10, .long r_2), (8, .long r_1), (0, .long x0), (2, .long x1), (4, .long x2), (6, .long x3)]) hx hb dX13_compared_44 hl (by decide +kernel) rfl (fun ls hl => ?_)
    have hs44 := cmpS (x := x0) (y := x1) (z := r_1) (by omega) (by assumption)
    rw [← ez_4] at hs44
    refine lv_lload hx hb dX13_compared_46 (lv_at hl 5 rfl) ?_
    refine lv_lload hx hb dX13_compared_48 (lv_at hl 1 rfl) ?_
    refine lv_lload hx hb dX13_compared_50 (lv_at hl 6 rfl) ?_
    refine lv_lmul hx hb dX13_compared_52 ?_
    refine lv_lsub hx hb dX13_compared_53 ?_
    refine lv_topl (fun z_5 ez_5 => ?_)
    refine lv_lstore (lv' := [(14, .long z_5), (12, .long z_4), (10, .long r_2), (8, .long r_1), (0, .long x0), (2, .long x1), (4, .long x2), (6, .long x3)]) hx hb dX13_compared_54 hl (by decide +kernel) rfl (fun ls hl => ?_)
    have hs54 := cmpS (x := x2) (y := x3) (z := r_2) (by omega) (by assumption)
    rw [← ez_5] at hs54
    refine lv_lload hx hb dX13_compared_56 (lv_at hl 1 rfl) ?_
    refine lv_lconst (v := 0) hx hb dX13_compared_58 (by decide +kernel) ?_
    refine W.lcmp hx hb dX13_compared_59 ?_
    refine lv_if_eq (tgt := 70) hx hb dX13_compared_60 (by decide +kernel) (fun c_6 => ?_) (fun c_6 => ?_)
    · rw [lcmp_eq] at c_6
      try rw [tl_0] at c_6
      refine lv_lload hx hb dX13_compared_70 (lv_at hl 1 rfl) ?_
      refine lv_lload hx hb dX13_compared_72 (lv_at hl 0 rfl) ?_
      refine W.lcmp hx hb dX13_compared_74 ?_
      refine lv_if_ne (tgt := 82) hx hb dX13_compared_75 (by decide +kernel) (fun c_7 => ?_) (fun c_7 => ?_)
      · rw [lcmp_eq] at c_7
        refine lv_lload hx hb dX13_compared_82 (lv_at hl 1 rfl) ?_
        refine lv_lconst (v := 0) hx hb dX13_compared_84 (by decide +kernel) ?_
        refine W.lcmp hx hb dX13_compared_85 ?_
        refine lv_if_ne (tgt := 93) hx hb dX13_compared_86 (by decide +kernel) (fun c_8 => ?_) (fun c_8 => ?_)
        · rw [lcmp_eq] at c_8
          try rw [tl_0] at c_8
          refine lv_iconst (v := 1) hx hb dX13_compared_93 (by decide +kernel) ?_
          refine lv_goto (tgt := 107) hx hb dX13_compared_94 (by decide +kernel) ?_
          exact W.iret hx hb hr (fun t ht hW => ⟨_, rfl, (by show (1 : Int32).toInt = _; rw [ti_1]; first | exact (cmpW_gt (by omega) (by omega) (by omega)).symm | exact (cmpW_s (by omega) (by omega) (by omega) (by omega)).symm), ht⟩) (fun _ h => by cases h) dX13_compared_107
        · rw [lcmp_eq] at c_8
          try rw [tl_0] at c_8
          refine lv_iconst (v := (-1)) hx hb dX13_compared_89 (by decide +kernel) ?_
          refine lv_goto (tgt := 107) hx hb dX13_compared_90 (by decide +kernel) ?_
          exact W.iret hx hb hr (fun t ht hW => ⟨_, rfl, (by show (-1 : Int32).toInt = _; rw [ti_n1]; first | exact (cmpW_lt (by omega) (by omega) (by omega)).symm | exact (cmpW_r (by omega) (by omega) (by omega) (by omega)).symm), ht⟩) (fun _ h => by cases h) dX13_compared_107
      · rw [lcmp_eq] at c_7
        refine lv_iconst (v := 0) hx hb dX13_compared_78 (by decide +kernel) ?_
        refine lv_goto (tgt := 107) hx hb dX13_compared_79 (by decide +kernel) ?_
        exact W.iret hx hb hr (fun t ht hW => ⟨_, rfl, (by show (0 : Int32).toInt = _; rw [ti_0]; exact (cmpW_0 (by omega) (by omega) (by omega)).symm), ht⟩) (fun _ h => by cases h) dX13_compared_107
    · rw [lcmp_eq] at c_6
      try rw [tl_0] at c_6
      refine lv_lload hx hb dX13_compared_63 (lv_at hl 0 rfl) ?_
      refine lv_lconst (v := 0) hx hb dX13_compared_65 (by decide +kernel) ?_
      refine W.lcmp hx hb dX13_compared_66 ?_
      refine lv_if_ne (tgt := 97) hx hb dX13_compared_67 (by decide +kernel) (fun c_9 => ?_) (fun c_9 => ?_)
      · rw [lcmp_eq] at c_9
        try rw [tl_0] at c_9
        refine lv_lload hx hb dX13_compared_97 (lv_at hl 7 rfl) ?_
        refine lv_lload hx hb dX13_compared_99 (lv_at hl 0 rfl) ?_
        refine lv_lload_n hx hb dX13_compared_101 rfl (lv_at hl 5 rfl) ?_
        refine lv_lload hx hb dX13_compared_102 (lv_at hl 1 rfl) ?_
        refine vp_callSi (W.runS (As := [.long x3, .long z_5, .long x1, .long z_4]) (rest := []) ⟨hx, hb, hml, hown, hts⟩ (hrec x3 z_5 x1 z_4 (by omega) (by omega) (by rw [hs44.1, hs54.1]; exact cmpK hb1 (by omega) (by omega) hk)) (va_cwS 4 hts gX13_compared_X13_compared rfl rfl rfl hs_X13_compared ⟨(show _ ≤ ((k + 1) + 2 : Nat) from by (try dsimp only); omega), (show _ ≤ (40 * (k + 1) + 60 : Nat) from by (try dsimp only); omega)⟩) (pR_S hP hE [] rfl) rfl rfl hl.1 rfl (lv_room (Nat.le_of_ble_eq_true rfl)) dX13_compared_104 ⟨Nat.le_of_ble_eq_true rfl, Nat.le_of_ble_eq_true rfl⟩) (fun r_10 hr_10 => ?_)
        exact W.iret hx hb hr (fun t ht hW => ⟨_, rfl, (hr_10.trans (by rw [hs44.1, hs54.1]; exact (cmpW_flip (by omega)).symm)), ht⟩) (fun _ h => by cases h) dX13_compared_107
      · rw [lcmp_eq] at c_9
        try rw [tl_0] at c_9
        refine lv_lload hx hb dX13_compared_70 (lv_at hl 1 rfl) ?_
        refine lv_lload hx hb dX13_compared_72 (lv_at hl 0 rfl) ?_
        refine W.lcmp hx hb dX13_compared_74 ?_
        refine lv_if_ne (tgt := 82) hx hb dX13_compared_75 (by decide +kernel) (fun c_11 => ?_) (fun c_11 => ?_)
        · rw [lcmp_eq] at c_11
          refine lv_lload hx hb dX13_compared_82 (lv_at hl 1 rfl) ?_
          refine lv_lconst (v := 0) hx hb dX13_compared_84 (by decide +kernel) ?_
          refine W.lcmp hx hb dX13_compared_85 ?_
          refine lv_if_ne (tgt := 93) hx hb dX13_compared_86 (by decide +kernel) (fun c_12 => ?_) (fun c_12 => ?_)
          · rw [lcmp_eq] at c_12
            try rw [tl_0] at c_12
            refine lv_iconst (v := 1) hx hb dX13_compared_93 (by decide +kernel) ?_
            refine lv_goto (tgt := 107) hx hb dX13_compared_94 (by decide +kernel) ?_
            exact W.iret hx hb hr (fun t ht hW => ⟨_, rfl, (by show (1 : Int32).toInt = _; rw [ti_1]; first | exact (cmpW_gt (by omega) (by omega) (by omega)).symm | exact (cmpW_s (by omega) (by omega) (by omega) (by omega)).symm), ht⟩) (fun _ h => by cases h) dX13_compared_107
          · rw [lcmp_eq] at c_12
            try rw [tl_0] at c_12
            refine lv_iconst (v := (-1)) hx hb dX13_compared_89 (by decide +kernel) ?_
            refine lv_goto (tgt := 107) hx hb dX13_compared_90 (by decide +kernel) ?_
            exact W.iret hx hb hr (fun t ht hW => ⟨_, rfl, (by show (-1 : Int32).toInt = _; rw [ti_n1]; first | exact (cmpW_lt (by omega) (by omega) (by omega)).symm | exact (cmpW_r (by omega) (by omega) (by omega) (by omega)).symm), ht⟩) (fun _ h => by cases h) dX13_compared_107
        · rw [lcmp_eq] at c_11
          refine lv_iconst (v := 0) hx hb dX13_compared_78 (by decide +kernel) ?_
          refine lv_goto (tgt := 107) hx hb dX13_compared_79 (by decide +kernel) ?_
          exact W.iret hx hb hr (fun t ht hW => ⟨_, rfl, (by show (0 : Int32).toInt = _; rw [ti_0]; exact (cmpW_0 (by omega) (by omega) (by omega)).symm), ht⟩) (fun _ h => by cases h) dX13_compared_107
  · rw [lcmp_eq] at c_3
    refine lv_lload hx hb dX13_compared_24 (lv_at hl 1 rfl) ?_
    refine lv_lload hx hb dX13_compared_26 (lv_at hl 0 rfl) ?_
    refine W.lcmp hx hb dX13_compared_28 ?_
    refine lv_if_ge (tgt := 36) hx hb dX13_compared_29 (by decide +kernel) (fun c_13 => ?_) (fun c_13 => ?_)
    · rw [lcmp_ge] at c_13
      refine lv_iconst (v := 1) hx hb dX13_compared_36 (by decide +kernel) ?_
      exact W.iret hx hb hr (fun t ht hW => ⟨_, rfl, (by show (1 : Int32).toInt = _; rw [ti_1]; first | exact (cmpW_gt (by omega) (by omega) (by omega)).symm | exact (cmpW_s (by omega) (by omega) (by omega) (by omega)).symm), ht⟩) (fun _ h => by cases h) dX13_compared_37
    · rw [lcmp_ge] at c_13
      refine lv_iconst (v := (-1)) hx hb dX13_compared_32 (by decide +kernel) ?_
      refine lv_goto (tgt := 37) hx hb dX13_compared_33 (by decide +kernel) ?_
      exact W.iret hx hb hr (fun t ht hW => ⟨_, rfl, (by show (-1 : Int32).toInt = _; rw [ti_n1]; first | exact (cmpW_lt (by omega) (by omega) (by omega)).symm | exact (cmpW_r (by omega) (by omega) (by omega) (by omega)).symm), ht⟩) (fun _ h => by cases h) dX13_compared_37
theorem cC_all (l : Launch) (D : va_G) (T : Nat → ClassId) : ∀ k : Nat, cC_compared l D T k
  | 0 => by
    intro x0 x1 x2 x3 hb hd hk
    exfalso
    have h1 := Int.emod_nonneg x2.toInt (show x3.toInt ≠ 0 by omega)
    have h2 : 0 ≤ (x2.toInt % x3.toInt) * x1.toInt := Int.mul_nonneg h1 (by omega)
    have h3 : (2 : Int) ^ 0 = 1 := rfl
    omega
  | k + 1 => by
    intro x0 x1 x2 x3 hb hd hk
    exact s_X13_compared l D T x0 x1 x2 x3 k hb hd hk (cC_all l D T k)
end
section
/-! worth, as it is laid by numbers and a mark -/
theorem or_0 {x : Int32} (h : x.toInt = 0) : (x ||| 0).toInt = 0 := by
  have e : x = 0 := Int32.toInt_inj.1 (by rw [h, ti_0])
  rw [e]
  decide
theorem red_by {a b g : Int64} (h : g = gI a b) : ((a / g, b / g) : Int64 × Int64) = redW a b := by rw [h]; rfl
theorem den_pos {b d z : Int64} (hb : 1 ≤ b.toInt) (hd : 1 ≤ d.toInt) (h : fitM b d) (e : z = b * d) : 1 ≤ z.toInt := by rw [e]; exact fitM_pos hb hd h
/-- what stands there, with its mark -/
def mpW (b : Int32) (v w : Int64) : Int64 × Int64 := if b.toInt = 0 then (v, w) else (0, 0)
theorem mp_y {b : Int32} {v w : Int64} (h : b.toInt = 0) : mpW b v w = (v, w) := if_pos h
theorem mp_n {b : Int32} {v w : Int64} (h : ¬ b.toInt = 0) : mpW b v w = (0, 0) := if_neg h
theorem mulW_0 {v w : Int64} : mulW (0, 0) v w = (0, 0) := mulW_no (Or.inl (by decide +kernel))
theorem ref_mul {b b' : Int32} {a e c d u v : Int64} {p : Int64 × Int64} (hp : mpW b c d = p) (hd : 1 ≤ d.toInt) (h1 : b'.toInt = 0 ↔ (b.toInt = 0 ∧ fitM a c ∧ fitM e d)) (h2 : b'.toInt = 0 → (u, v) = redW (a * c) (e * d)) : mpW b' u v = mulW p a e := by
  subst hp
  by_cases hb : b.toInt = 0
  · rw [mp_y hb]
    by_cases hf : fitM a c ∧ fitM e d
    · have h3 := h1.2 ⟨hb, hf⟩
      rw [mp_y h3, h2 h3, mulW_yes (p := (c, d)) (show ¬ d.toInt = 0 by omega) (fitM_c.1 hf.1) (fitM_c.1 hf.2), Int64.mul_comm a c, Int64.mul_comm e d]
    · rw [mp_n (fun q => hf (h1.1 q).2)]
      refine (mulW_no (p := (c, d)) (Or.inr ?_)).symm
      by_cases q : fitM c a
      · exact Or.inr (fun q2 => hf ⟨fitM_c.1 q, fitM_c.1 q2⟩)
      · exact Or.inl q
  · rw [mp_n hb, mp_n (fun q => hb (h1.1 q).1), mulW_0]
theorem ref_add {b b2 b' : Int32} {a e c d u v : Int64} {p q : Int64 × Int64} (hp : mpW b a e = p) (hq : b.toInt = 0 → mpW b2 c d = q) (hb : b2.toInt = 0 → b.toInt = 0) (he : 1 ≤ e.toInt) (hd : 1 ≤ d.toInt) (h1 : b'.toInt = 0 ↔ (b2.toInt = 0 ∧ fitM a d ∧ fitM c e ∧ fitM e d ∧ fitA (a * d) (c * e))) (h2 : b'.toInt = 0 → (u, v) = redW ((a * d) + (c * e)) (e * d)) : mpW b' u v = addW p q := by
  by_cases c1 : b.toInt = 0
  · have hq := hq c1
    subst hp
    subst hq
    rw [mp_y c1]
    by_cases c2 : b2.toInt = 0
    · rw [mp_y c2]
      by_cases hf : fitM a d ∧ fitM c e ∧ fitM e d ∧ fitA (a * d) (c * e)
      · have h3 := h1.2 ⟨c2, hf⟩
        rw [mp_y h3, h2 h3]
        exact (addW_yes (p := (a, e)) (q := (c, d)) (show ¬ e.toInt = 0 by omega) (show ¬ d.toInt = 0 by omega) hf.1 hf.2.1 hf.2.2.1 hf.2.2.2).symm
      · rw [mp_n (fun q => hf (h1.1 q).2)]
        refine (addW_no (p := (a, e)) (q := (c, d)) (Or.inr (Or.inr ?_))).symm
        show ¬ fitM a d ∨ ¬ fitM c e ∨ ¬ fitM e d ∨ ¬ fitA (a * d) (c * e)
        by_cases q1 : fitM a d
        · by_cases q2 : fitM c e
          · by_cases q3 : fitM e d
            · exact Or.inr (Or.inr (Or.inr (fun q4 => hf ⟨q1, q2, q3, q4⟩)))
            · exact Or.inr (Or.inr (Or.inl q3))
          · exact Or.inr (Or.inl q2)
        · exact Or.inl q1
    · rw [mp_n c2, mp_n (fun q => c2 (h1.1 q).1)]
      exact (addW_no (Or.inr (Or.inl (by decide +kernel)))).symm
  · rw [mp_n (fun q => c1 (hb (h1.1 q).1)), ← hp, mp_n c1]
    exact (addW_no (Or.inl (by decide +kernel))).symm
theorem ref_mul2 {b b' : Int32} {a e c d u v : Int64} {p : Int64 × Int64} (hp : mpW b a e = p) (he : 1 ≤ e.toInt) (h1 : b'.toInt = 0 ↔ (b.toInt = 0 ∧ fitM a c ∧ fitM e d)) (h2 : b'.toInt = 0 → (u, v) = redW (a * c) (e * d)) : mpW b' u v = mulW p c d := by
  subst hp
  by_cases hb : b.toInt = 0
  · rw [mp_y hb]
    by_cases hf : fitM a c ∧ fitM e d
    · have h3 := h1.2 ⟨hb, hf⟩
      rw [mp_y h3, h2 h3]
      exact (mulW_yes (p := (a, e)) (show ¬ e.toInt = 0 by omega) hf.1 hf.2).symm
    · rw [mp_n (fun q => hf (h1.1 q).2)]
      refine (mulW_no (p := (a, e)) (Or.inr ?_)).symm
      by_cases q : fitM a c
      · exact Or.inr (fun q2 => hf ⟨q, q2⟩)
      · exact Or.inl q
  · rw [mp_n hb, mp_n (fun q => hb (h1.1 q).1), mulW_0]
theorem or_00 {x y : Int32} (h : x.toInt = 0) (g : y.toInt = 0) : (x ||| y).toInt = 0 := by
  have e : x = 0 := Int32.toInt_inj.1 (by rw [h, ti_0])
  have e2 : y = 0 := Int32.toInt_inj.1 (by rw [g, ti_0])
  rw [e, e2]
  decide
theorem tri_trN {t : Int32} (h : 0 ≤ t.toInt ∧ t.toInt ≤ 6) : tri t.toInt = (trN t.toNatClampNeg : Int) := by
  obtain ⟨j, hj, e⟩ := nI_of (x := t) (by rw [fa_lt, ti_0]; omega)
  subst e
  rw [nI_toInt hj] at h
  rw [nI_toInt hj, nI_clamp hj]
  have key : ∀ a : Fin 7, tri (a.val : Int) = (trN a.val : Int) := by decide
  exact key ⟨j, by omega⟩
theorem at_sl {x t k r : Int32} (hx : 0 ≤ x.toInt) (ht : 0 ≤ t.toInt ∧ t.toInt ≤ 6) (hk : 0 ≤ k.toInt) (e : r.toInt = 28 * x.toInt + tri t.toInt + k.toInt) : r.toNatClampNeg = slN x t k := by
  have h1 := tn hx
  have h2 := tn hk
  have h3 := tri_trN ht
  have h4 := tn (x := r) (by omega)
  unfold slN
  omega
/-- the table, as pairs -/
def tabW (f20 f21 : Nat → Int64) (f22 : Nat → Int32) : vaF := fun x t k => mpW (f22 (slN x t k)) (f20 (slN x t k)) (f21 (slN x t k))
def lqW (a b c d e f g : Int32) : Nat → Int32
  | 0 => a
  | 1 => b
  | 2 => c
  | 3 => d
  | 4 => e
  | 5 => f
  | _ => g
theorem tk_mp {b b' : Int32} {u v : Int64} {f20 f21 : Nat → Int64} {f22 : Nat → Int32} {x t k : Int32} (h : b.toInt = 0) (i : b'.toInt = 0 ↔ (b.toInt = 0 ∧ (f22 (slN x t k)).toInt = 0)) (e1 : u = f20 (slN x t k)) (e2 : v = f21 (slN x t k)) : mpW b' u v = tabW f20 f21 f22 x t k := by
  show mpW b' u v = mpW (f22 (slN x t k)) (f20 (slN x t k)) (f21 (slN x t k))
  by_cases q : (f22 (slN x t k)).toInt = 0
  · rw [mp_y (i.2 ⟨h, q⟩), mp_y q, e1, e2]
  · rw [mp_n (fun q2 => q (i.1 q2).2), mp_n q]
theorem wt_ref {a b q : Int32} {g : Int64} (hb : 1 ≤ b.toInt ∧ b.toInt ≤ 9) (hq : 1 ≤ q.toInt ∧ q.toInt ≤ 9) (hg : g = gI a.toInt64 (b.toInt64 * q.toInt64)) : ((a.toInt64 / g, (b.toInt64 * q.toInt64) / g) : Int64 × Int64) = redW a.toInt64 ((b * q).toInt64) := by
  have h1 : b.toInt * q.toInt ≤ 9 * 9 := Int.mul_le_mul hb.2 hq.2 (by omega) (by omega)
  have h2 : 1 * 1 ≤ b.toInt * q.toInt := Int.mul_le_mul hb.1 hq.1 (by omega) (by omega)
  have e : b.toInt64 * q.toInt64 = (b * q).toInt64 := Int64.toInt_inj.1 (by
    rw [l_mul (by rw [Int32.toInt_toInt64, Int32.toInt_toInt64]; omega) (by rw [Int32.toInt_toInt64, Int32.toInt_toInt64]; omega), Int32.toInt_toInt64, Int32.toInt_toInt64, Int32.toInt_toInt64, fb_mulI (by omega) (by omega)])
  rw [hg, e]
  rfl
theorem avg_ref {l : Nat → Int32} {V : vaF} {x t k : Int32} {c d : Int64} (h : ((c, d) : Int64 × Int64) = wtW l) : mulW (addW (mulW (V x (t + 1) (k + 1)) (l 3).toInt64 1) (mulW (V x (t + 1) k) (l 4 - l 3).toInt64 1)) c d = avgW l V x t k := by
  unfold avgW
  rw [← h]
/-- the greater, the lesser one of two -/
theorem best_ref {b1 b2 b3 : Int32} {a e c d u v : Int64} {p q : Int64 × Int64} (hp : mpW b1 a e = p) (hq : b1.toInt = 0 → mpW b2 c d = q) (hb : b2.toInt = 0 → b1.toInt = 0) (h3 : b3 = b2) (hy : b2.toInt = 0 → (u, v) = (a, e) ∨ (u, v) = (c, d)) : b3.toInt = 0 → (mpW b3 u v = p ∨ mpW b3 u v = q) := by
  intro h
  rw [h3] at h
  have h1 := hb h
  rw [h3, mp_y h, ← hp, mp_y h1, ← hq h1, mp_y h]
  exact hy h
def bestW (p q : Int64 × Int64) (s : Int) : Int64 × Int64 := if p.2.toInt = 0 ∨ q.2.toInt = 0 then (0, 0) else if 0 < cmpP p q * s then p else q
theorem mul_s {r s : Int32} (hr : r.toInt = -1 ∨ r.toInt = 0 ∨ r.toInt = 1) (hs : s.toInt = 1 ∨ s.toInt = -1) : (r * s).toInt = r.toInt * s.toInt := by
  rcases hr with a | a | a <;> rcases hs with b | b <;> exact fb_mulI (by rw [a, b]; decide) (by rw [a, b]; decide)
theorem tb_ref {b1 b2 : Int32} {a e c d u v : Int64} {p q : Int64 × Int64} {s : Int} (hp : mpW b1 a e = p) (hq : b1.toInt = 0 → mpW b2 c d = q) (hb : b2.toInt = 0 → b1.toInt = 0) (he : 1 ≤ e.toInt) (hd : 1 ≤ d.toInt) (hy : b2.toInt = 0 → ((0 < cmpW a.toInt e.toInt c.toInt d.toInt * s) ∧ u = a ∧ v = e) ∨ (¬ (0 < cmpW a.toInt e.toInt c.toInt d.toInt * s) ∧ u = c ∧ v = d)) : mpW b2 u v = bestW p q s := by
  by_cases c1 : b1.toInt = 0
  · have hq := hq c1
    subst hp
    subst hq
    rw [mp_y c1]
    by_cases c2 : b2.toInt = 0
    · rw [mp_y c2, mp_y c2]
      unfold bestW
      rw [if_neg (show ¬ (e.toInt = 0 ∨ d.toInt = 0) by omega)]
      show (u, v) = if 0 < cmpW a.toInt e.toInt c.toInt d.toInt * s then (a, e) else (c, d)
      rcases hy c2 with ⟨y1, y2, y3⟩ | ⟨y1, y2, y3⟩
      · rw [if_pos y1, y2, y3]
      · rw [if_neg y1, y2, y3]
    · rw [mp_n c2, mp_n c2]
      unfold bestW
      rw [if_pos (Or.inr (by decide +kernel))]
  · rw [mp_n (fun h => c1 (hb h)), ← hp, mp_n c1]
    unfold bestW
    rw [if_pos (Or.inl (by decide +kernel))]
theorem dX13_times_0 : decode cX13_times 0 = .ok (.lload_n 1, 1) := by decide +kernel
theorem dX13_times_1 : decode cX13_times 1 = .ok (.lload_n 3, 1) := by decide +kernel
theorem dX13_times_10 : decode cX13_times 10 = .ok (.lload_n 1, 1) := by decide +kernel
theorem dX13_times_11 : decode cX13_times 11 = .ok (.lconst 0, 1) := by decide +kernel
theorem dX13_times_12 : decode cX13_times 12 = .ok (.lcmp, 1) := by decide +kernel
theorem dX13_times_13 : decode cX13_times 13 = .ok (.ifCond .eq 54, 3) := by decide +kernel
theorem dX13_times_16 : decode cX13_times 16 = .ok (.lload_n 3, 1) := by decide +kernel
theorem dX13_times_17 : decode cX13_times 17 = .ok (.lconst 0, 1) := by decide +kernel
theorem dX13_times_18 : decode cX13_times 18 = .ok (.lcmp, 1) := by decide +kernel
theorem dX13_times_19 : decode cX13_times 19 = .ok (.ifCond .eq 48, 3) := by decide +kernel
theorem dX13_times_2 : decode cX13_times 2 = .ok (.lmul, 1) := by decide +kernel
theorem dX13_times_22 : decode cX13_times 22 = .ok (.lload 5, 2) := by decide +kernel
theorem dX13_times_24 : decode cX13_times 24 = .ok (.lload_n 3, 1) := by decide +kernel
theorem dX13_times_25 : decode cX13_times 25 = .ok (.ldiv, 1) := by decide +kernel
theorem dX13_times_26 : decode cX13_times 26 = .ok (.lload_n 1, 1) := by decide +kernel
theorem dX13_times_27 : decode cX13_times 27 = .ok (.lcmp, 1) := by decide +kernel
theorem dX13_times_28 : decode cX13_times 28 = .ok (.ifCond .ne 35, 3) := by decide +kernel
theorem dX13_times_3 : decode cX13_times 3 = .ok (.lstore 5, 2) := by decide +kernel
theorem dX13_times_31 : decode cX13_times 31 = .ok (.lload_n 1, 1) := by decide +kernel
theorem dX13_times_32 : decode cX13_times 32 = .ok (.ldc2_w 135, 3) := by decide +kernel
theorem dX13_times_35 : decode cX13_times 35 = .ok (.lcmp, 1) := by decide +kernel
theorem dX13_times_36 : decode cX13_times 36 = .ok (.ifCond .ne 11, 3) := by decide +kernel
theorem dX13_times_39 : decode cX13_times 39 = .ok (.lload_n 3, 1) := by decide +kernel
theorem dX13_times_40 : decode cX13_times 40 = .ok (.ldc2_w 139, 3) := by decide +kernel
theorem dX13_times_43 : decode cX13_times 43 = .ok (.lcmp, 1) := by decide +kernel
theorem dX13_times_44 : decode cX13_times 44 = .ok (.ifCond .eq 19, 3) := by decide +kernel
theorem dX13_times_47 : decode cX13_times 47 = .ok (.lload_n 3, 1) := by decide +kernel
theorem dX13_times_48 : decode cX13_times 48 = .ok (.ldc2_w 135, 3) := by decide +kernel
theorem dX13_times_5 : decode cX13_times 5 = .ok (.aload_n 0, 1) := by decide +kernel
theorem dX13_times_51 : decode cX13_times 51 = .ok (.lcmp, 1) := by decide +kernel
theorem dX13_times_52 : decode cX13_times 52 = .ok (.ifCond .ne 15, 3) := by decide +kernel
theorem dX13_times_55 : decode cX13_times 55 = .ok (.lload_n 1, 1) := by decide +kernel
theorem dX13_times_56 : decode cX13_times 56 = .ok (.ldc2_w 139, 3) := by decide +kernel
theorem dX13_times_59 : decode cX13_times 59 = .ok (.lcmp, 1) := by decide +kernel
theorem dX13_times_6 : decode cX13_times 6 = .ok (.dup, 1) := by decide +kernel
theorem dX13_times_60 : decode cX13_times 60 = .ok (.ifCond .ne 7, 3) := by decide +kernel
theorem dX13_times_63 : decode cX13_times 63 = .ok (.iconst 1, 1) := by decide +kernel
theorem dX13_times_64 : decode cX13_times 64 = .ok (.goto 4, 3) := by decide +kernel
theorem dX13_times_67 : decode cX13_times 67 = .ok (.iconst 0, 1) := by decide +kernel
theorem dX13_times_68 : decode cX13_times 68 = .ok (.ior, 1) := by decide +kernel
theorem dX13_times_69 : decode cX13_times 69 = .ok (.putfield 131, 3) := by decide +kernel
theorem dX13_times_7 : decode cX13_times 7 = .ok (.getfield 131, 3) := by decide +kernel
theorem dX13_times_72 : decode cX13_times 72 = .ok (.lload 5, 2) := by decide +kernel
theorem dX13_times_74 : decode cX13_times 74 = .ok (.lreturn, 1) := by decide +kernel
set_option maxRecDepth 20000 in
theorem in_X13_times_X13 : ∀ w ∈ wsX130, w ∈ wsX13_times := sub_r [4, 5, 6, 7, 8, 9, 10, 11, 12, 13, 14, 15, 16, 17, 18, 19, 20, 21, 22, 23, 24, 25, 26, 27, 28, 29, 30, 31, 32, 33, 34, 35, 36, 37, 38, 39, 40, 41, 42, 43, 44, 45, 46, 47, 48] rfl
set_option maxHeartbeats 4000000 in
set_option maxRecDepth 100000 in
theorem c_X13_times (l : Launch) (D : va_G) (T : Nat → ClassId) (sz : Nat) (h0 : Nat) (q : Nat → Int32) (v : Int64) (w : Int64) (a : Nat → Nat) (x1 : Int64) (x2 : Int64) (hB : isB (q 14)) : Met l yX13_times wsX13_times ({ frames := 0, cells := 0, slots := 0, locals := 0 }) (pW [.ref h0, .long x1, .long x2] D T [(h0, .inr (10, (Value.int (q 0) :: Value.int (q 1) :: Value.int (q 2) :: Value.int (q 3) :: Value.int (q 4) :: Value.int (q 5) :: Value.int (q 6) :: Value.int (q 7) :: Value.ref (a 8) :: Value.ref (a 9) :: Value.ref (a 10) :: Value.ref (a 11) :: Value.ref (a 12) :: Value.ref (a 13) :: Value.int (q 14) :: Value.long v :: Value.long w :: Value.ref (a 17) :: Value.ref (a 18) :: Value.ref (a 19) :: Value.ref (a 20) :: Value.ref (a 21) :: Value.ref (a 22) :: Value.ref (a 23) :: Value.int (q 24) :: Value.ref (a 25) :: Value.int (q 26) :: Value.ref (a 27) :: Value.int (q 28) :: Value.int (q 29) :: Value.int (q 30) :: Value.int (q 31) :: Value.int (q 32) :: Value.int (q 33) :: Value.ref (a 34) :: Value.ref (a 35) :: Value.ref (a 36) :: Value.ref (a 37) :: Value.ref (a 38) :: Value.ref (a 39) :: Value.ref (a 40) :: Value.int (q 41) :: Value.ref (a 42) :: Value.int (q 43) :: Value.int (q 44) :: [])))] sz) (va_Ql (fun (r : Int64) (u : (Int32)) => (isB u) ∧ ((u : Int32).toInt = 0 ↔ (((q 14) : Int32).toInt = 0 ∧ fitM x1 x2)) ∧ (r = x1 * x2)) (bW D (va_A [(h0, .inr (10, (Value.int (q 0) :: Value.int (q 1) :: Value.int (q 2) :: Value.int (q 3) :: Value.int (q 4) :: Value.int (q 5) :: Value.int (q 6) :: Value.int (q 7) :: Value.ref (a 8) :: Value.ref (a 9) :: Value.ref (a 10) :: Value.ref (a 11) :: Value.ref (a 12) :: Value.ref (a 13) :: Value.int (q 14) :: Value.long v :: Value.long w :: Value.ref (a 17) :: Value.ref (a 18) :: Value.ref (a 19) :: Value.ref (a 20) :: Value.ref (a 21) :: Value.ref (a 22) :: Value.ref (a 23) :: Value.int (q 24) :: Value.ref (a 25) :: Value.int (q 26) :: Value.ref (a 27) :: Value.int (q 28) :: Value.int (q 29) :: Value.int (q 30) :: Value.int (q 31) :: Value.int (q 32) :: Value.int (q 33) :: Value.ref (a 34) :: Value.ref (a 35) :: Value.ref (a 36) :: Value.ref (a 37) :: Value.ref (a 38) :: Value.ref (a 39) :: Value.ref (a 40) :: Value.int (q 41) :: Value.ref (a 42) :: Value.int (q 43) :: Value.int (q 44) :: [])))] sz) (fun (u : (Int32)) => [(h0, .inr (10, (Value.int (q 0) :: Value.int (q 1) :: Value.int (q 2) :: Value.int (q 3) :: Value.int (q 4) :: Value.int (q 5) :: Value.int (q 6) :: Value.int (q 7) :: Value.ref (a 8) :: Value.ref (a 9) :: Value.ref (a 10) :: Value.ref (a 11) :: Value.ref (a 12) :: Value.ref (a 13) :: Value.int u :: Value.long v :: Value.long w :: Value.ref (a 17) :: Value.ref (a 18) :: Value.ref (a 19) :: Value.ref (a 20) :: Value.ref (a 21) :: Value.ref (a 22) :: Value.ref (a 23) :: Value.int (q 24) :: Value.ref (a 25) :: Value.int (q 26) :: Value.ref (a 27) :: Value.int (q 28) :: Value.int (q 29) :: Value.int (q 30) :: Value.int (q 31) :: Value.int (q 32) :: Value.int (q 33) :: Value.ref (a 34) :: Value.ref (a 35) :: Value.ref (a 36) :: Value.ref (a 37) :: Value.ref (a 38) :: Value.ref (a 39) :: Value.ref (a 40) :: Value.int (q 41) :: Value.ref (a 42) :: Value.int (q 43) :: Value.int (q 44) :: [])))])) (va_A [(h0, .inr (10, (Value.int (q 0) :: Value.int (q 1) :: Value.int (q 2) :: Value.int (q 3) :: Value.int (q 4) :: Value.int (q 5) :: Value.int (q 6) :: Value.int (q 7) :: Value.ref (a 8) :: Value.ref (a 9) :: Value.ref (a 10) :: Value.ref (a 11) :: Value.ref (a 12) :: Value.ref (a 13) :: Value.int (q 14) :: Value.long v :: Value.long w :: Value.ref (a 17) :: Value.ref (a 18) :: Value.ref (a 19) :: Value.ref (a 20) :: Value.ref (a 21) :: Value.ref (a 22) :: Value.ref (a 23) :: Value.int (q 24) :: Value.ref (a 25) :: Value.int (q 26) :: Value.ref (a 27) :: Value.int (q 28) :: Value.int (q 29) :: Value.int (q 30) :: Value.int (q 31) :: Value.int (q 32) :: Value.int (q 33) :: Value.ref (a 34) :: Value.ref (a 35) :: Value.ref (a 36) :: Value.ref (a 37) :: Value.ref (a 38) :: Value.ref (a 39) :: Value.ref (a 40) :: Value.int (q 41) :: Value.ref (a 42) :: Value.int (q 43) :: Value.int (q 44) :: [])))] sz)) 0 0 (va_A [(h0, .inr (10, (Value.int (q 0) :: Value.int (q 1) :: Value.int (q 2) :: Value.int (q 3) :: Value.int (q 4) :: Value.int (q 5) :: Value.int (q 6) :: Value.int (q 7) :: Value.ref (a 8) :: Value.ref (a 9) :: Value.ref (a 10) :: Value.ref (a 11) :: Value.ref (a 12) :: Value.ref (a 13) :: Value.int (q 14) :: Value.long v :: Value.long w :: Value.ref (a 17) :: Value.ref (a 18) :: Value.ref (a 19) :: Value.ref (a 20) :: Value.ref (a 21) :: Value.ref (a 22) :: Value.ref (a 23) :: Value.int (q 24) :: Value.ref (a 25) :: Value.int (q 26) :: Value.ref (a 27) :: Value.int (q 28) :: Value.int (q 29) :: Value.int (q 30) :: Value.int (q 31) :: Value.int (q 32) :: Value.int (q 33) :: Value.ref (a 34) :: Value.ref (a 35) :: Value.ref (a 36) :: Value.ref (a 37) :: Value.ref (a 38) :: Value.ref (a 39) :: Value.ref (a 40) :: Value.int (q 41) :: Value.ref (a 42) :: Value.int (q 43) :: Value.int (q 44) :: [])))] sz) := by
  refine Met.ofW (cc := cX13_times) (maxL := 7) (ret := (some .long)) (by decide +kernel) rfl ?_
  intro p e s m args below meth c s₁ B hml hv
  obtain ⟨rfl, hsz, hP, hE, hD0⟩ := hv
  have hx := B.exec
  have hb := B.bytes
  have hr := B.returns
  have hts := atoms_spec (ws := wsX13_times) B.pre
  have hown : s.vm.findClass RX13 = some m.cls := findClass_of_methodNamed B.named
  have hlocks := B.notSynchronized
  subst hsz
  have hD := hD0.self (sz := s.heap.size)
  generalize hAe : va_A [(h0, .inr (10, (Value.int (q 0) :: Value.int (q 1) :: Value.int (q 2) :: Value.int (q 3) :: Value.int (q 4) :: Value.int (q 5) :: Value.int (q 6) :: Value.int (q 7) :: Value.ref (a 8) :: Value.ref (a 9) :: Value.ref (a 10) :: Value.ref (a 11) :: Value.ref (a 12) :: Value.ref (a 13) :: Value.int (q 14) :: Value.long v :: Value.long w :: Value.ref (a 17) :: Value.ref (a 18) :: Value.ref (a 19) :: Value.ref (a 20) :: Value.ref (a 21) :: Value.ref (a 22) :: Value.ref (a 23) :: Value.int (q 24) :: Value.ref (a 25) :: Value.int (q 26) :: Value.ref (a 27) :: Value.int (q 28) :: Value.int (q 29) :: Value.int (q 30) :: Value.int (q 31) :: Value.int (q 32) :: Value.int (q 33) :: Value.ref (a 34) :: Value.ref (a 35) :: Value.ref (a 36) :: Value.ref (a 37) :: Value.ref (a 38) :: Value.ref (a 39) :: Value.ref (a 40) :: Value.int (q 41) :: Value.ref (a 42) :: Value.int (q 43) :: Value.int (q 44) :: [])))] s.heap.size = A at hD ⊢
  have hA : ∀ q : Nat, s.heap.size ≤ q → A q := fun q h => by rw [← hAe]; exact Or.inr h
  have hS : va_S A s.heap s.heap [] := va_S.rf
  have hP : va_P D vwCl [(h0, .inr (10, (Value.int (q 0) :: Value.int (q 1) :: Value.int (q 2) :: Value.int (q 3) :: Value.int (q 4) :: Value.int (q 5) :: Value.int (q 6) :: Value.int (q 7) :: Value.ref (a 8) :: Value.ref (a 9) :: Value.ref (a 10) :: Value.ref (a 11) :: Value.ref (a 12) :: Value.ref (a 13) :: Value.int (q 14) :: Value.long v :: Value.long w :: Value.ref (a 17) :: Value.ref (a 18) :: Value.ref (a 19) :: Value.ref (a 20) :: Value.ref (a 21) :: Value.ref (a 22) :: Value.ref (a 23) :: Value.int (q 24) :: Value.ref (a 25) :: Value.int (q 26) :: Value.ref (a 27) :: Value.int (q 28) :: Value.int (q 29) :: Value.int (q 30) :: Value.int (q 31) :: Value.int (q 32) :: Value.int (q 33) :: Value.ref (a 34) :: Value.ref (a 35) :: Value.ref (a 36) :: Value.ref (a 37) :: Value.ref (a 38) :: Value.ref (a 39) :: Value.ref (a 40) :: Value.int (q 41) :: Value.ref (a 42) :: Value.int (q 43) :: Value.int (q 44) :: [])))] s.heap := hP
  have hl := lv_entry ([.ref h0, .long x1, .long x2]) (n := 7) (Nat.le_of_ble_eq_true rfl)
  rw [lg_entry_eq]
  generalize (lg_sl ([.ref h0, .long x1, .long x2]) ++ List.replicate (7 - (lg_sl ([.ref h0, .long x1, .long x2])).length) Slot.unset).toArray = ls at hl ⊢
  have hl : lv_has ls 7 [(0, .ref h0), (1, .long x1), (3, .long x2)] := hl
  clear hD0
  refine lv_lload_n hx hb dX13_times_0 rfl (lv_at hl 1 rfl) ?_
  refine lv_lload_n hx hb dX13_times_1 rfl (lv_at hl 2 rfl) ?_
  refine lv_lmul hx hb dX13_times_2 ?_
  refine lv_topl (fun z_1 ez_1 => ?_)
  refine lv_lstore (lv' := [(5, .long z_1), (0, .ref h0), (1, .long x1), (3, .long x2)]) hx hb dX13_times_3 hl (by decide +kernel) rfl (fun ls hl => ?_)
  refine lv_aload_n hx hb dX13_times_5 rfl (lv_at hl 1 rfl) ?_
  refine lv_dup hx hb dX13_times_6 rfl ?_
  refine va_get (D := D) (ci := 10) (v := .int (q 14)) (C := RX13) (T := TX13) (N := 45) hx hb hts in_X13_times_X13 hown hE.1 hP 0 rfl rfl 14 (by decide +kernel) (hts (.fieldLink RX13 131 "ClauseBookModel" "isMuch" "Z") (List.mem_of_getElem? (i := 1) rfl)) (fun _ h9 => h9) rfl dX13_times_7 ?_
  refine lv_lload_n hx hb dX13_times_10 rfl (lv_at hl 2 rfl) ?_
  refine lv_lconst (v := 0) hx hb dX13_times_11 (by decide +kernel) ?_
  refine W.lcmp hx hb dX13_times_12 ?_
  refine lv_if_eq (tgt := 67) hx hb dX13_times_13 (by decide +kernel) (fun c_2 => ?_) (fun c_2 => ?_)
  · rw [lcmp_eq] at c_2
    try rw [tl_0] at c_2
    refine lv_iconst (v := 0) hx hb dX13_times_67 (by decide +kernel) ?_
    refine lv_ior hx hb dX13_times_68 ?_
    refine lv_topi (fun z_3 ez_3 => ?_)
    have hBz_3 : isB z_3 := by rw [ez_3]; exact isB.or hB isB0
    have hOz_3 : z_3.toInt = 0 → ((q 14) : Int32).toInt = 0 ∧ (0 : Int32).toInt = 0 := by rw [ez_3]; exact isB.or0 hB isB0
    refine va_put (D := D) (ci := 10) (v := .int z_3) (ty := .boolean) (C := RX13) (T := TX13) (N := 45) hx hb hts in_X13_times_X13 tyX13 tyX13_ok nmX13 hown hE.1 hP hD hS 0 rfl rfl 14 (by decide +kernel) (hts (.fieldLink RX13 131 "ClauseBookModel" "isMuch" "Z") (List.mem_of_getElem? (i := 1) rfl)) (fun _ h9 => h9) rfl (by decide +kernel) (isB.nar hBz_3) (isB.fits hBz_3) (Nat.le_of_ble_eq_true rfl) dX13_times_69 (fun H locs hP hD hS => ?_)
    obtain ⟨hP, hD⟩ := wPD [(h0, .inr (10, (Value.int (q 0) :: Value.int (q 1) :: Value.int (q 2) :: Value.int (q 3) :: Value.int (q 4) :: Value.int (q 5) :: Value.int (q 6) :: Value.int (q 7) :: Value.ref (a 8) :: Value.ref (a 9) :: Value.ref (a 10) :: Value.ref (a 11) :: Value.ref (a 12) :: Value.ref (a 13) :: Value.int z_3 :: Value.long v :: Value.long w :: Value.ref (a 17) :: Value.ref (a 18) :: Value.ref (a 19) :: Value.ref (a 20) :: Value.ref (a 21) :: Value.ref (a 22) :: Value.ref (a 23) :: Value.int (q 24) :: Value.ref (a 25) :: Value.int (q 26) :: Value.ref (a 27) :: Value.int (q 28) :: Value.int (q 29) :: Value.int (q 30) :: Value.int (q 31) :: Value.int (q 32) :: Value.int (q 33) :: Value.ref (a 34) :: Value.ref (a 35) :: Value.ref (a 36) :: Value.ref (a 37) :: Value.ref (a 38) :: Value.ref (a 39) :: Value.ref (a 40) :: Value.int (q 41) :: Value.ref (a 42) :: Value.int (q 43) :: Value.int (q 44) :: [])))] hP hD rfl
    refine lv_lload hx hb dX13_times_72 (lv_at hl 0 rfl) ?_
    exact W.lret hx hb hr (fun t ht hW => ⟨⟨_, z_3, rfl, ⟨(show isB z_3 from hBz_3), (show (z_3 : Int32).toInt = 0 ↔ (((q 14) : Int32).toInt = 0 ∧ fitM x1 x2) from ⟨(fun h9 => ⟨(hOz_3 h9).1, (by first | exact fitM_0 (by omega) | exact fitM_no (by omega) (by omega) (by first | assumption | rfl) (by assumption))⟩), (fun h9 => by rw [ez_3]; exact or_0 h9.1)⟩), (show z_1 = x1 * x2 from ez_1)⟩, by rw [ht]; exact hP.sub [0] rfl, hD.sub [0] (by decide +kernel) rfl⟩, hS.F ht⟩) hS.2.2 dX13_times_74
  · rw [lcmp_eq] at c_2
    try rw [tl_0] at c_2
    refine lv_lload_n hx hb dX13_times_16 rfl (lv_at hl 3 rfl) ?_
    refine lv_lconst (v := 0) hx hb dX13_times_17 (by decide +kernel) ?_
    refine W.lcmp hx hb dX13_times_18 ?_
    refine lv_if_eq (tgt := 67) hx hb dX13_times_19 (by decide +kernel) (fun c_4 => ?_) (fun c_4 => ?_)
    · rw [lcmp_eq] at c_4
      try rw [tl_0] at c_4
      refine lv_iconst (v := 0) hx hb dX13_times_67 (by decide +kernel) ?_
      refine lv_ior hx hb dX13_times_68 ?_
      refine lv_topi (fun z_5 ez_5 => ?_)
      have hBz_5 : isB z_5 := by rw [ez_5]; exact isB.or hB isB0
      have hOz_5 : z_5.toInt = 0 → ((q 14) : Int32).toInt = 0 ∧ (0 : Int32).toInt = 0 := by rw [ez_5]; exact isB.or0 hB isB0
      refine va_put (D := D) (ci := 10) (v := .int z_5) (ty := .boolean) (C := RX13) (T := TX13) (N := 45) hx hb hts in_X13_times_X13 tyX13 tyX13_ok nmX13 hown hE.1 hP hD hS 0 rfl rfl 14 (by decide +kernel) (hts (.fieldLink RX13 131 "ClauseBookModel" "isMuch" "Z") (List.mem_of_getElem? (i := 1) rfl)) (fun _ h9 => h9) rfl (by decide +kernel) (isB.nar hBz_5) (isB.fits hBz_5) (Nat.le_of_ble_eq_true rfl) dX13_times_69 (fun H locs hP hD hS => ?_)
      obtain ⟨hP, hD⟩ := wPD [(h0, .inr (10, (Value.int (q 0) :: Value.int (q 1) :: Value.int (q 2) :: Value.int (q 3) :: Value.int (q 4) :: Value.int (q 5) :: Value.int (q 6) :: Value.int (q 7) :: Value.ref (a 8) :: Value.ref (a 9) :: Value.ref (a 10) :: Value.ref (a 11) :: Value.ref (a 12) :: Value.ref (a 13) :: Value.int z_5 :: Value.long v :: Value.long w :: Value.ref (a 17) :: Value.ref (a 18) :: Value.ref (a 19) :: Value.ref (a 20) :: Value.ref (a 21) :: Value.ref (a 22) :: Value.ref (a 23) :: Value.int (q 24) :: Value.ref (a 25) :: Value.int (q 26) :: Value.ref (a 27) :: Value.int (q 28) :: Value.int (q 29) :: Value.int (q 30) :: Value.int (q 31) :: Value.int (q 32) :: Value.int (q 33) :: Value.ref (a 34) :: Value.ref (a 35) :: Value.ref (a 36) :: Value.ref (a 37) :: Value.ref (a 38) :: Value.ref (a 39) :: Value.ref (a 40) :: Value.int (q 41) :: Value.ref (a 42) :: Value.int (q 43) :: Value.int (q 44) :: [])))] hP hD rfl
      refine lv_lload hx hb dX13_times_72 (lv_at hl 0 rfl) ?_
      exact W.lret hx hb hr (fun t ht hW => ⟨⟨_, z_5, rfl, ⟨(show isB z_5 from hBz_5), (show (z_5 : Int32).toInt = 0 ↔ (((q 14) : Int32).toInt = 0 ∧ fitM x1 x2) from ⟨(fun h9 => ⟨(hOz_5 h9).1, (by first | exact fitM_0 (by omega) | exact fitM_no (by omega) (by omega) (by first | assumption | rfl) (by assumption))⟩), (fun h9 => by rw [ez_5]; exact or_0 h9.1)⟩), (show z_1 = x1 * x2 from ez_1)⟩, by rw [ht]; exact hP.sub [0] rfl, hD.sub [0] (by decide +kernel) rfl⟩, hS.F ht⟩) hS.2.2 dX13_times_74
    · rw [lcmp_eq] at c_4
      try rw [tl_0] at c_4
      refine lv_lload hx hb dX13_times_22 (lv_at hl 0 rfl) ?_
      refine lv_lload_n hx hb dX13_times_24 rfl (lv_at hl 3 rfl) ?_
      refine lv_ldiv hx hb dX13_times_25 (nz64 (by omega)) ?_
      refine lv_lload_n hx hb dX13_times_26 rfl (lv_at hl 2 rfl) ?_
      refine W.lcmp hx hb dX13_times_27 ?_
      refine lv_if_ne (tgt := 63) hx hb dX13_times_28 (by decide +kernel) (fun c_6 => ?_) (fun c_6 => ?_)
      · rw [lcmp_eq] at c_6
        refine lv_iconst (v := 1) hx hb dX13_times_63 (by decide +kernel) ?_
        refine lv_goto (tgt := 68) hx hb dX13_times_64 (by decide +kernel) ?_
        refine lv_ior hx hb dX13_times_68 ?_
        refine lv_topi (fun z_7 ez_7 => ?_)
        have hBz_7 : isB z_7 := by rw [ez_7]; exact isB.or hB isB1
        have hOz_7 : z_7.toInt = 0 → ((q 14) : Int32).toInt = 0 ∧ (1 : Int32).toInt = 0 := by rw [ez_7]; exact isB.or0 hB isB1
        refine va_put (D := D) (ci := 10) (v := .int z_7) (ty := .boolean) (C := RX13) (T := TX13) (N := 45) hx hb hts in_X13_times_X13 tyX13 tyX13_ok nmX13 hown hE.1 hP hD hS 0 rfl rfl 14 (by decide +kernel) (hts (.fieldLink RX13 131 "ClauseBookModel" "isMuch" "Z") (List.mem_of_getElem? (i := 1) rfl)) (fun _ h9 => h9) rfl (by decide +kernel) (isB.nar hBz_7) (isB.fits hBz_7) (Nat.le_of_ble_eq_true rfl) dX13_times_69 (fun H locs hP hD hS => ?_)
        obtain ⟨hP, hD⟩ := wPD [(h0, .inr (10, (Value.int (q 0) :: Value.int (q 1) :: Value.int (q 2) :: Value.int (q 3) :: Value.int (q 4) :: Value.int (q 5) :: Value.int (q 6) :: Value.int (q 7) :: Value.ref (a 8) :: Value.ref (a 9) :: Value.ref (a 10) :: Value.ref (a 11) :: Value.ref (a 12) :: Value.ref (a 13) :: Value.int z_7 :: Value.long v :: Value.long w :: Value.ref (a 17) :: Value.ref (a 18) :: Value.ref (a 19) :: Value.ref (a 20) :: Value.ref (a 21) :: Value.ref (a 22) :: Value.ref (a 23) :: Value.int (q 24) :: Value.ref (a 25) :: Value.int (q 26) :: Value.ref (a 27) :: Value.int (q 28) :: Value.int (q 29) :: Value.int (q 30) :: Value.int (q 31) :: Value.int (q 32) :: Value.int (q 33) :: Value.ref (a 34) :: Value.ref (a 35) :: Value.ref (a 36) :: Value.ref (a 37) :: Value.ref (a 38) :: Value.ref (a 39) :: Value.ref (a 40) :: Value.int (q 41) :: Value.ref (a 42) :: Value.int (q 43) :: Value.int (q 44) :: [])))] hP hD rfl
        refine lv_lload hx hb dX13_times_72 (lv_at hl 0 rfl) ?_
        exact W.lret hx hb hr (fun t ht hW => ⟨⟨_, z_7, rfl, ⟨(show isB z_7 from hBz_7), (show (z_7 : Int32).toInt = 0 ↔ (((q 14) : Int32).toInt = 0 ∧ fitM x1 x2) from ⟨(fun h9 => by have h8 := (hOz_7 h9).2; rw [ti_1] at h8; omega), (fun h9 => absurd h9.2 (fun h9 => by first | exact absurd (by omega) ((fitM_n1 (by omega)).1 h9) | exact absurd (by omega) ((fitM_n1 (by omega)).1 (fitM_c.1 h9)) | exact absurd (fitM_yes h9 (by omega) (by first | assumption | rfl)) (by assumption)))⟩), (show z_1 = x1 * x2 from ez_1)⟩, by rw [ht]; exact hP.sub [0] rfl, hD.sub [0] (by decide +kernel) rfl⟩, hS.F ht⟩) hS.2.2 dX13_times_74
      · rw [lcmp_eq] at c_6
        refine lv_lload_n hx hb dX13_times_31 rfl (lv_at hl 2 rfl) ?_
        refine lv_ldc2 (v := (-1)) hx hb hown (hts (.constantLong RX13 135 (-1)) (List.mem_of_getElem? (i := 2) rfl)) dX13_times_32 ?_
        refine W.lcmp hx hb dX13_times_35 ?_
        refine lv_if_ne (tgt := 47) hx hb dX13_times_36 (by decide +kernel) (fun c_8 => ?_) (fun c_8 => ?_)
        · rw [lcmp_eq] at c_8
          try rw [tl_n1] at c_8
          refine lv_lload_n hx hb dX13_times_47 rfl (lv_at hl 3 rfl) ?_
          refine lv_ldc2 (v := (-1)) hx hb hown (hts (.constantLong RX13 135 (-1)) (List.mem_of_getElem? (i := 2) rfl)) dX13_times_48 ?_
          refine W.lcmp hx hb dX13_times_51 ?_
          refine lv_if_ne (tgt := 67) hx hb dX13_times_52 (by decide +kernel) (fun c_9 => ?_) (fun c_9 => ?_)
          · rw [lcmp_eq] at c_9
            try rw [tl_n1] at c_9
            refine lv_iconst (v := 0) hx hb dX13_times_67 (by decide +kernel) ?_
            refine lv_ior hx hb dX13_times_68 ?_
            refine lv_topi (fun z_10 ez_10 => ?_)
            have hBz_10 : isB z_10 := by rw [ez_10]; exact isB.or hB isB0
            have hOz_10 : z_10.toInt = 0 → ((q 14) : Int32).toInt = 0 ∧ (0 : Int32).toInt = 0 := by rw [ez_10]; exact isB.or0 hB isB0
            refine va_put (D := D) (ci := 10) (v := .int z_10) (ty := .boolean) (C := RX13) (T := TX13) (N := 45) hx hb hts in_X13_times_X13 tyX13 tyX13_ok nmX13 hown hE.1 hP hD hS 0 rfl rfl 14 (by decide +kernel) (hts (.fieldLink RX13 131 "ClauseBookModel" "isMuch" "Z") (List.mem_of_getElem? (i := 1) rfl)) (fun _ h9 => h9) rfl (by decide +kernel) (isB.nar hBz_10) (isB.fits hBz_10) (Nat.le_of_ble_eq_true rfl) dX13_times_69 (fun H locs hP hD hS => ?_)
            obtain ⟨hP, hD⟩ := wPD [(h0, .inr (10, (Value.int (q 0) :: Value.int (q 1) :: Value.int (q 2) :: Value.int (q 3) :: Value.int (q 4) :: Value.int (q 5) :: Value.int (q 6) :: Value.int (q 7) :: Value.ref (a 8) :: Value.ref (a 9) :: Value.ref (a 10) :: Value.ref (a 11) :: Value.ref (a 12) :: Value.ref (a 13) :: Value.int z_10 :: Value.long v :: Value.long w :: Value.ref (a 17) :: Value.ref (a 18) :: Value.ref (a 19) :: Value.ref (a 20) :: Value.ref (a 21) :: Value.ref (a 22) :: Value.ref (a 23) :: Value.int (q 24) :: Value.ref (a 25) :: Value.int (q 26) :: Value.ref (a 27) :: Value.int (q 28) :: Value.int (q 29) :: Value.int (q 30) :: Value.int (q 31) :: Value.int (q 32) :: Value.int (q 33) :: Value.ref (a 34) :: Value.ref (a 35) :: Value.ref (a 36) :: Value.ref (a 37) :: Value.ref (a 38) :: Value.ref (a 39) :: Value.ref (a 40) :: Value.int (q 41) :: Value.ref (a 42) :: Value.int (q 43) :: Value.int (q 44) :: [])))] hP hD rfl
            refine lv_lload hx hb dX13_times_72 (lv_at hl 0 rfl) ?_
            exact W.lret hx hb hr (fun t ht hW => ⟨⟨_, z_10, rfl, ⟨(show isB z_10 from hBz_10), (show (z_10 : Int32).toInt = 0 ↔ (((q 14) : Int32).toInt = 0 ∧ fitM x1 x2) from ⟨(fun h9 => ⟨(hOz_10 h9).1, (by first | exact fitM_0 (by omega) | exact fitM_no (by omega) (by omega) (by first | assumption | rfl) (by assumption))⟩), (fun h9 => by rw [ez_10]; exact or_0 h9.1)⟩), (show z_1 = x1 * x2 from ez_1)⟩, by rw [ht]; exact hP.sub [0] rfl, hD.sub [0] (by decide +kernel) rfl⟩, hS.F ht⟩) hS.2.2 dX13_times_74
          · rw [lcmp_eq] at c_9
            try rw [tl_n1] at c_9
            refine lv_lload_n hx hb dX13_times_55 rfl (lv_at hl 2 rfl) ?_
            refine lv_ldc2 (v := (-9223372036854775808)) hx hb hown (hts (.constantLong RX13 139 (-9223372036854775808)) (List.mem_of_getElem? (i := 3) rfl)) dX13_times_56 ?_
            refine W.lcmp hx hb dX13_times_59 ?_
            refine lv_if_ne (tgt := 67) hx hb dX13_times_60 (by decide +kernel) (fun c_11 => ?_) (fun c_11 => ?_)
            · rw [lcmp_eq] at c_11
              try rw [tl_min] at c_11
              refine lv_iconst (v := 0) hx hb dX13_times_67 (by decide +kernel) ?_
              refine lv_ior hx hb dX13_times_68 ?_
              refine lv_topi (fun z_12 ez_12 => ?_)
              have hBz_12 : isB z_12 := by rw [ez_12]; exact isB.or hB isB0
              have hOz_12 : z_12.toInt = 0 → ((q 14) : Int32).toInt = 0 ∧ (0 : Int32).toInt = 0 := by rw [ez_12]; exact isB.or0 hB isB0
              refine va_put (D := D) (ci := 10) (v := .int z_12) (ty := .boolean) (C := RX13) (T := TX13) (N := 45) hx hb hts in_X13_times_X13 tyX13 tyX13_ok nmX13 hown hE.1 hP hD hS 0 rfl rfl 14 (by decide +kernel) (hts (.fieldLink RX13 131 "ClauseBookModel" "isMuch" "Z") (List.mem_of_getElem? (i := 1) rfl)) (fun _ h9 => h9) rfl (by decide +kernel) (isB.nar hBz_12) (isB.fits hBz_12) (Nat.le_of_ble_eq_true rfl) dX13_times_69 (fun H locs hP hD hS => ?_)
              obtain ⟨hP, hD⟩ := wPD [(h0, .inr (10, (Value.int (q 0) :: Value.int (q 1) :: Value.int (q 2) :: Value.int (q 3) :: Value.int (q 4) :: Value.int (q 5) :: Value.int (q 6) :: Value.int (q 7) :: Value.ref (a 8) :: Value.ref (a 9) :: Value.ref (a 10) :: Value.ref (a 11) :: Value.ref (a 12) :: Value.ref (a 13) :: Value.int z_12 :: Value.long v :: Value.long w :: Value.ref (a 17) :: Value.ref (a 18) :: Value.ref (a 19) :: Value.ref (a 20) :: Value.ref (a 21) :: Value.ref (a 22) :: Value.ref (a 23) :: Value.int (q 24) :: Value.ref (a 25) :: Value.int (q 26) :: Value.ref (a 27) :: Value.int (q 28) :: Value.int (q 29) :: Value.int (q 30) :: Value.int (q 31) :: Value.int (q 32) :: Value.int (q 33) :: Value.ref (a 34) :: Value.ref (a 35) :: Value.ref (a 36) :: Value.ref (a 37) :: Value.ref (a 38) :: Value.ref (a 39) :: Value.ref (a 40) :: Value.int (q 41) :: Value.ref (a 42) :: Value.int (q 43) :: Value.int (q 44) :: [])))] hP hD rfl
              refine lv_lload hx hb dX13_times_72 (lv_at hl 0 rfl) ?_
              exact W.lret hx hb hr (fun t ht hW => ⟨⟨_, z_12, rfl, ⟨(show isB z_12 from hBz_12), (show (z_12 : Int32).toInt = 0 ↔ (((q 14) : Int32).toInt = 0 ∧ fitM x1 x2) from ⟨(fun h9 => ⟨(hOz_12 h9).1, (by first | exact fitM_0 (by omega) | exact fitM_no (by omega) (by omega) (by first | assumption | rfl) (by assumption))⟩), (fun h9 => by rw [ez_12]; exact or_0 h9.1)⟩), (show z_1 = x1 * x2 from ez_1)⟩, by rw [ht]; exact hP.sub [0] rfl, hD.sub [0] (by decide +kernel) rfl⟩, hS.F ht⟩) hS.2.2 dX13_times_74
            · rw [lcmp_eq] at c_11
              try rw [tl_min] at c_11
              refine lv_iconst (v := 1) hx hb dX13_times_63 (by decide +kernel) ?_
              refine lv_goto (tgt := 68) hx hb dX13_times_64 (by decide +kernel) ?_
              refine lv_ior hx hb dX13_times_68 ?_
              refine lv_topi (fun z_13 ez_13 => ?_)
              have hBz_13 : isB z_13 := by rw [ez_13]; exact isB.or hB isB1
              have hOz_13 : z_13.toInt = 0 → ((q 14) : Int32).toInt = 0 ∧ (1 : Int32).toInt = 0 := by rw [ez_13]; exact isB.or0 hB isB1
              refine va_put (D := D) (ci := 10) (v := .int z_13) (ty := .boolean) (C := RX13) (T := TX13) (N := 45) hx hb hts in_X13_times_X13 tyX13 tyX13_ok nmX13 hown hE.1 hP hD hS 0 rfl rfl 14 (by decide +kernel) (hts (.fieldLink RX13 131 "ClauseBookModel" "isMuch" "Z") (List.mem_of_getElem? (i := 1) rfl)) (fun _ h9 => h9) rfl (by decide +kernel) (isB.nar hBz_13) (isB.fits hBz_13) (Nat.le_of_ble_eq_true rfl) dX13_times_69 (fun H locs hP hD hS => ?_)
              obtain ⟨hP, hD⟩ := wPD [(h0, .inr (10, (Value.int (q 0) :: Value.int (q 1) :: Value.int (q 2) :: Value.int (q 3) :: Value.int (q 4) :: Value.int (q 5) :: Value.int (q 6) :: Value.int (q 7) :: Value.ref (a 8) :: Value.ref (a 9) :: Value.ref (a 10) :: Value.ref (a 11) :: Value.ref (a 12) :: Value.ref (a 13) :: Value.int z_13 :: Value.long v :: Value.long w :: Value.ref (a 17) :: Value.ref (a 18) :: Value.ref (a 19) :: Value.ref (a 20) :: Value.ref (a 21) :: Value.ref (a 22) :: Value.ref (a 23) :: Value.int (q 24) :: Value.ref (a 25) :: Value.int (q 26) :: Value.ref (a 27) :: Value.int (q 28) :: Value.int (q 29) :: Value.int (q 30) :: Value.int (q 31) :: Value.int (q 32) :: Value.int (q 33) :: Value.ref (a 34) :: Value.ref (a 35) :: Value.ref (a 36) :: Value.ref (a 37) :: Value.ref (a 38) :: Value.ref (a 39) :: Value.ref (a 40) :: Value.int (q 41) :: Value.ref (a 42) :: Value.int (q 43) :: Value.int (q 44) :: [])))] hP hD rfl
              refine lv_lload hx hb dX13_times_72 (lv_at hl 0 rfl) ?_
              exact W.lret hx hb hr (fun t ht hW => ⟨⟨_, z_13, rfl, ⟨(show isB z_13 from hBz_13), (show (z_13 : Int32).toInt = 0 ↔ (((q 14) : Int32).toInt = 0 ∧ fitM x1 x2) from ⟨(fun h9 => by have h8 := (hOz_13 h9).2; rw [ti_1] at h8; omega), (fun h9 => absurd h9.2 (fun h9 => by first | exact absurd (by omega) ((fitM_n1 (by omega)).1 h9) | exact absurd (by omega) ((fitM_n1 (by omega)).1 (fitM_c.1 h9)) | exact absurd (fitM_yes h9 (by omega) (by first | assumption | rfl)) (by assumption)))⟩), (show z_1 = x1 * x2 from ez_1)⟩, by rw [ht]; exact hP.sub [0] rfl, hD.sub [0] (by decide +kernel) rfl⟩, hS.F ht⟩) hS.2.2 dX13_times_74
        · rw [lcmp_eq] at c_8
          try rw [tl_n1] at c_8
          refine lv_lload_n hx hb dX13_times_39 rfl (lv_at hl 3 rfl) ?_
          refine lv_ldc2 (v := (-9223372036854775808)) hx hb hown (hts (.constantLong RX13 139 (-9223372036854775808)) (List.mem_of_getElem? (i := 3) rfl)) dX13_times_40 ?_
          refine W.lcmp hx hb dX13_times_43 ?_
          refine lv_if_eq (tgt := 63) hx hb dX13_times_44 (by decide +kernel) (fun c_14 => ?_) (fun c_14 => ?_)
          · rw [lcmp_eq] at c_14
            try rw [tl_min] at c_14
            refine lv_iconst (v := 1) hx hb dX13_times_63 (by decide +kernel) ?_
            refine lv_goto (tgt := 68) hx hb dX13_times_64 (by decide +kernel) ?_
            refine lv_ior hx hb dX13_times_68 ?_
            refine lv_topi (fun z_15 ez_15 => ?_)
            have hBz_15 : isB z_15 := by rw [ez_15]; exact isB.or hB isB1
            have hOz_15 : z_15.toInt = 0 → ((q 14) : Int32).toInt = 0 ∧ (1 : Int32).toInt = 0 := by rw [ez_15]; exact isB.or0 hB isB1
            refine va_put (D := D) (ci := 10) (v := .int z_15) (ty := .boolean) (C := RX13) (T := TX13) (N := 45) hx hb hts in_X13_times_X13 tyX13 tyX13_ok nmX13 hown hE.1 hP hD hS 0 rfl rfl 14 (by decide +kernel) (hts (.fieldLink RX13 131 "ClauseBookModel" "isMuch" "Z") (List.mem_of_getElem? (i := 1) rfl)) (fun _ h9 => h9) rfl (by decide +kernel) (isB.nar hBz_15) (isB.fits hBz_15) (Nat.le_of_ble_eq_true rfl) dX13_times_69 (fun H locs hP hD hS => ?_)
            obtain ⟨hP, hD⟩ := wPD [(h0, .inr (10, (Value.int (q 0) :: Value.int (q 1) :: Value.int (q 2) :: Value.int (q 3) :: Value.int (q 4) :: Value.int (q 5) :: Value.int (q 6) :: Value.int (q 7) :: Value.ref (a 8) :: Value.ref (a 9) :: Value.ref (a 10) :: Value.ref (a 11) :: Value.ref (a 12) :: Value.ref (a 13) :: Value.int z_15 :: Value.long v :: Value.long w :: Value.ref (a 17) :: Value.ref (a 18) :: Value.ref (a 19) :: Value.ref (a 20) :: Value.ref (a 21) :: Value.ref (a 22) :: Value.ref (a 23) :: Value.int (q 24) :: Value.ref (a 25) :: Value.int (q 26) :: Value.ref (a 27) :: Value.int (q 28) :: Value.int (q 29) :: Value.int (q 30) :: Value.int (q 31) :: Value.int (q 32) :: Value.int (q 33) :: Value.ref (a 34) :: Value.ref (a 35) :: Value.ref (a 36) :: Value.ref (a 37) :: Value.ref (a 38) :: Value.ref (a 39) :: Value.ref (a 40) :: Value.int (q 41) :: Value.ref (a 42) :: Value.int (q 43) :: Value.int (q 44) :: [])))] hP hD rfl
            refine lv_lload hx hb dX13_times_72 (lv_at hl 0 rfl) ?_
            exact W.lret hx hb hr (fun t ht hW => ⟨⟨_, z_15, rfl, ⟨(show isB z_15 from hBz_15), (show (z_15 : Int32).toInt = 0 ↔ (((q 14) : Int32).toInt = 0 ∧ fitM x1 x2) from ⟨(fun h9 => by have h8 := (hOz_15 h9).2; rw [ti_1] at h8; omega), (fun h9 => absurd h9.2 (fun h9 => by first | exact absurd (by omega) ((fitM_n1 (by omega)).1 h9) | exact absurd (by omega) ((fitM_n1 (by omega)).1 (fitM_c.1 h9)) | exact absurd (fitM_yes h9 (by omega) (by first | assumption | rfl)) (by assumption)))⟩), (show z_1 = x1 * x2 from ez_1)⟩, by rw [ht]; exact hP.sub [0] rfl, hD.sub [0] (by decide +kernel) rfl⟩, hS.F ht⟩) hS.2.2 dX13_times_74
          · rw [lcmp_eq] at c_14
            try rw [tl_min] at c_14
            refine lv_lload_n hx hb dX13_times_47 rfl (lv_at hl 3 rfl) ?_
            refine lv_ldc2 (v := (-1)) hx hb hown (hts (.constantLong RX13 135 (-1)) (List.mem_of_getElem? (i := 2) rfl)) dX13_times_48 ?_
            refine W.lcmp hx hb dX13_times_51 ?_
            refine lv_if_ne (tgt := 67) hx hb dX13_times_52 (by decide +kernel) (fun c_16 => ?_) (fun c_16 => ?_)
            · rw [lcmp_eq] at c_16
              try rw [tl_n1] at c_16
              refine lv_iconst (v := 0) hx hb dX13_times_67 (by decide +kernel) ?_
              refine lv_ior hx hb dX13_times_68 ?_
              refine lv_topi (fun z_17 ez_17 => ?_)
              have hBz_17 : isB z_17 := by rw [ez_17]; exact isB.or hB isB0
              have hOz_17 : z_17.toInt = 0 → ((q 14) : Int32).toInt = 0 ∧ (0 : Int32).toInt = 0 := by rw [ez_17]; exact isB.or0 hB isB0
              refine va_put (D := D) (ci := 10) (v := .int z_17) (ty := .boolean) (C := RX13) (T := TX13) (N := 45) hx hb hts in_X13_times_X13 tyX13 tyX13_ok nmX13 hown hE.1 hP hD hS 0 rfl rfl 14 (by decide +kernel) (hts (.fieldLink RX13 131 "ClauseBookModel" "isMuch" "Z") (List.mem_of_getElem? (i := 1) rfl)) (fun _ h9 => h9) rfl (by decide +kernel) (isB.nar hBz_17) (isB.fits hBz_17) (Nat.le_of_ble_eq_true rfl) dX13_times_69 (fun H locs hP hD hS => ?_)
              obtain ⟨hP, hD⟩ := wPD [(h0, .inr (10, (Value.int (q 0) :: Value.int (q 1) :: Value.int (q 2) :: Value.int (q 3) :: Value.int (q 4) :: Value.int (q 5) :: Value.int (q 6) :: Value.int (q 7) :: Value.ref (a 8) :: Value.ref (a 9) :: Value.ref (a 10) :: Value.ref (a 11) :: Value.ref (a 12) :: Value.ref (a 13) :: Value.int z_17 :: Value.long v :: Value.long w :: Value.ref (a 17) :: Value.ref (a 18) :: Value.ref (a 19) :: Value.ref (a 20) :: Value.ref (a 21) :: Value.ref (a 22) :: Value.ref (a 23) :: Value.int (q 24) :: Value.ref (a 25) :: Value.int (q 26) :: Value.ref (a 27) :: Value.int (q 28) :: Value.int (q 29) :: Value.int (q 30) :: Value.int (q 31) :: Value.int (q 32) :: Value.int (q 33) :: Value.ref (a 34) :: Value.ref (a 35) :: Value.ref (a 36) :: Value.ref (a 37) :: Value.ref (a 38) :: Value.ref (a 39) :: Value.ref (a 40) :: Value.int (q 41) :: Value.ref (a 42) :: Value.int (q 43) :: Value.int (q 44) :: [])))] hP hD rfl
              refine lv_lload hx hb dX13_times_72 (lv_at hl 0 rfl) ?_
              exact W.lret hx hb hr (fun t ht hW => ⟨⟨_, z_17, rfl, ⟨(show isB z_17 from hBz_17), (show (z_17 : Int32).toInt = 0 ↔ (((q 14) : Int32).toInt = 0 ∧ fitM x1 x2) from ⟨(fun h9 => ⟨(hOz_17 h9).1, (by first | exact fitM_0 (by omega) | exact fitM_no (by omega) (by omega) (by first | assumption | rfl) (by assumption))⟩), (fun h9 => by rw [ez_17]; exact or_0 h9.1)⟩), (show z_1 = x1 * x2 from ez_1)⟩, by rw [ht]; exact hP.sub [0] rfl, hD.sub [0] (by decide +kernel) rfl⟩, hS.F ht⟩) hS.2.2 dX13_times_74
            · rw [lcmp_eq] at c_16
              try rw [tl_n1] at c_16
              refine lv_lload_n hx hb dX13_times_55 rfl (lv_at hl 2 rfl) ?_
              refine lv_ldc2 (v := (-9223372036854775808)) hx hb hown (hts (.constantLong RX13 139 (-9223372036854775808)) (List.mem_of_getElem? (i := 3) rfl)) dX13_times_56 ?_
              refine W.lcmp hx hb dX13_times_59 ?_
              refine lv_if_ne (tgt := 67) hx hb dX13_times_60 (by decide +kernel) (fun c_18 => ?_) (fun c_18 => ?_)
              · rw [lcmp_eq] at c_18
                try rw [tl_min] at c_18
                refine lv_iconst (v := 0) hx hb dX13_times_67 (by decide +kernel) ?_
                refine lv_ior hx hb dX13_times_68 ?_
                refine lv_topi (fun z_19 ez_19 => ?_)
                have hBz_19 : isB z_19 := by rw [ez_19]; exact isB.or hB isB0
                have hOz_19 : z_19.toInt = 0 → ((q 14) : Int32).toInt = 0 ∧ (0 : Int32).toInt = 0 := by rw [ez_19]; exact isB.or0 hB isB0
                refine va_put (D := D) (ci := 10) (v := .int z_19) (ty := .boolean) (C := RX13) (T := TX13) (N := 45) hx hb hts in_X13_times_X13 tyX13 tyX13_ok nmX13 hown hE.1 hP hD hS 0 rfl rfl 14 (by decide +kernel) (hts (.fieldLink RX13 131 "ClauseBookModel" "isMuch" "Z") (List.mem_of_getElem? (i := 1) rfl)) (fun _ h9 => h9) rfl (by decide +kernel) (isB.nar hBz_19) (isB.fits hBz_19) (Nat.le_of_ble_eq_true rfl) dX13_times_69 (fun H locs hP hD hS => ?_)
                obtain ⟨hP, hD⟩ := wPD [(h0, .inr (10, (Value.int (q 0) :: Value.int (q 1) :: Value.int (q 2) :: Value.int (q 3) :: Value.int (q 4) :: Value.int (q 5) :: Value.int (q 6) :: Value.int (q 7) :: Value.ref (a 8) :: Value.ref (a 9) :: Value.ref (a 10) :: Value.ref (a 11) :: Value.ref (a 12) :: Value.ref (a 13) :: Value.int z_19 :: Value.long v :: Value.long w :: Value.ref (a 17) :: Value.ref (a 18) :: Value.ref (a 19) :: Value.ref (a 20) :: Value.ref (a 21) :: Value.ref (a 22) :: Value.ref (a 23) :: Value.int (q 24) :: Value.ref (a 25) :: Value.int (q 26) :: Value.ref (a 27) :: Value.int (q 28) :: Value.int (q 29) :: Value.int (q 30) :: Value.int (q 31) :: Value.int (q 32) :: Value.int (q 33) :: Value.ref (a 34) :: Value.ref (a 35) :: Value.ref (a 36) :: Value.ref (a 37) :: Value.ref (a 38) :: Value.ref (a 39) :: Value.ref (a 40) :: Value.int (q 41) :: Value.ref (a 42) :: Value.int (q 43) :: Value.int (q 44) :: [])))] hP hD rfl
                refine lv_lload hx hb dX13_times_72 (lv_at hl 0 rfl) ?_
                exact W.lret hx hb hr (fun t ht hW => ⟨⟨_, z_19, rfl, ⟨(show isB z_19 from hBz_19), (show (z_19 : Int32).toInt = 0 ↔ (((q 14) : Int32).toInt = 0 ∧ fitM x1 x2) from ⟨(fun h9 => ⟨(hOz_19 h9).1, (by first | exact fitM_0 (by omega) | exact fitM_no (by omega) (by omega) (by first | assumption | rfl) (by assumption))⟩), (fun h9 => by rw [ez_19]; exact or_0 h9.1)⟩), (show z_1 = x1 * x2 from ez_1)⟩, by rw [ht]; exact hP.sub [0] rfl, hD.sub [0] (by decide +kernel) rfl⟩, hS.F ht⟩) hS.2.2 dX13_times_74
              · rw [lcmp_eq] at c_18
                try rw [tl_min] at c_18
                refine lv_iconst (v := 1) hx hb dX13_times_63 (by decide +kernel) ?_
                refine lv_goto (tgt := 68) hx hb dX13_times_64 (by decide +kernel) ?_
                refine lv_ior hx hb dX13_times_68 ?_
                refine lv_topi (fun z_20 ez_20 => ?_)
                have hBz_20 : isB z_20 := by rw [ez_20]; exact isB.or hB isB1
                have hOz_20 : z_20.toInt = 0 → ((q 14) : Int32).toInt = 0 ∧ (1 : Int32).toInt = 0 := by rw [ez_20]; exact isB.or0 hB isB1
                refine va_put (D := D) (ci := 10) (v := .int z_20) (ty := .boolean) (C := RX13) (T := TX13) (N := 45) hx hb hts in_X13_times_X13 tyX13 tyX13_ok nmX13 hown hE.1 hP hD hS 0 rfl rfl 14 (by decide +kernel) (hts (.fieldLink RX13 131 "ClauseBookModel" "isMuch" "Z") (List.mem_of_getElem? (i := 1) rfl)) (fun _ h9 => h9) rfl (by decide +kernel) (isB.nar hBz_20) (isB.fits hBz_20) (Nat.le_of_ble_eq_true rfl) dX13_times_69 (fun H locs hP hD hS => ?_)
                obtain ⟨hP, hD⟩ := wPD [(h0, .inr (10, (Value.int (q 0) :: Value.int (q 1) :: Value.int (q 2) :: Value.int (q 3) :: Value.int (q 4) :: Value.int (q 5) :: Value.int (q 6) :: Value.int (q 7) :: Value.ref (a 8) :: Value.ref (a 9) :: Value.ref (a 10) :: Value.ref (a 11) :: Value.ref (a 12) :: Value.ref (a 13) :: Value.int z_20 :: Value.long v :: Value.long w :: Value.ref (a 17) :: Value.ref (a 18) :: Value.ref (a 19) :: Value.ref (a 20) :: Value.ref (a 21) :: Value.ref (a 22) :: Value.ref (a 23) :: Value.int (q 24) :: Value.ref (a 25) :: Value.int (q 26) :: Value.ref (a 27) :: Value.int (q 28) :: Value.int (q 29) :: Value.int (q 30) :: Value.int (q 31) :: Value.int (q 32) :: Value.int (q 33) :: Value.ref (a 34) :: Value.ref (a 35) :: Value.ref (a 36) :: Value.ref (a 37) :: Value.ref (a 38) :: Value.ref (a 39) :: Value.ref (a 40) :: Value.int (q 41) :: Value.ref (a 42) :: Value.int (q 43) :: Value.int (q 44) :: [])))] hP hD rfl
                refine lv_lload hx hb dX13_times_72 (lv_at hl 0 rfl) ?_
                exact W.lret hx hb hr (fun t ht hW => ⟨⟨_, z_20, rfl, ⟨(show isB z_20 from hBz_20), (show (z_20 : Int32).toInt = 0 ↔ (((q 14) : Int32).toInt = 0 ∧ fitM x1 x2) from ⟨(fun h9 => by have h8 := (hOz_20 h9).2; rw [ti_1] at h8; omega), (fun h9 => absurd h9.2 (fun h9 => by first | exact absurd (by omega) ((fitM_n1 (by omega)).1 h9) | exact absurd (by omega) ((fitM_n1 (by omega)).1 (fitM_c.1 h9)) | exact absurd (fitM_yes h9 (by omega) (by first | assumption | rfl)) (by assumption)))⟩), (show z_1 = x1 * x2 from ez_1)⟩, by rw [ht]; exact hP.sub [0] rfl, hD.sub [0] (by decide +kernel) rfl⟩, hS.F ht⟩) hS.2.2 dX13_times_74
theorem dX13_plus_0 : decode cX13_plus 0 = .ok (.lload_n 1, 1) := by decide +kernel
theorem dX13_plus_1 : decode cX13_plus 1 = .ok (.lload_n 3, 1) := by decide +kernel
theorem dX13_plus_10 : decode cX13_plus 10 = .ok (.lload_n 1, 1) := by decide +kernel
theorem dX13_plus_11 : decode cX13_plus 11 = .ok (.lload 5, 2) := by decide +kernel
theorem dX13_plus_13 : decode cX13_plus 13 = .ok (.lxor, 1) := by decide +kernel
theorem dX13_plus_14 : decode cX13_plus 14 = .ok (.lconst 0, 1) := by decide +kernel
theorem dX13_plus_15 : decode cX13_plus 15 = .ok (.lcmp, 1) := by decide +kernel
theorem dX13_plus_16 : decode cX13_plus 16 = .ok (.ifCond .ge 16, 3) := by decide +kernel
theorem dX13_plus_19 : decode cX13_plus 19 = .ok (.lload_n 3, 1) := by decide +kernel
theorem dX13_plus_2 : decode cX13_plus 2 = .ok (.ladd, 1) := by decide +kernel
theorem dX13_plus_20 : decode cX13_plus 20 = .ok (.lload 5, 2) := by decide +kernel
theorem dX13_plus_22 : decode cX13_plus 22 = .ok (.lxor, 1) := by decide +kernel
theorem dX13_plus_23 : decode cX13_plus 23 = .ok (.lconst 0, 1) := by decide +kernel
theorem dX13_plus_24 : decode cX13_plus 24 = .ok (.lcmp, 1) := by decide +kernel
theorem dX13_plus_25 : decode cX13_plus 25 = .ok (.ifCond .ge 7, 3) := by decide +kernel
theorem dX13_plus_28 : decode cX13_plus 28 = .ok (.iconst 1, 1) := by decide +kernel
theorem dX13_plus_29 : decode cX13_plus 29 = .ok (.goto 4, 3) := by decide +kernel
theorem dX13_plus_3 : decode cX13_plus 3 = .ok (.lstore 5, 2) := by decide +kernel
theorem dX13_plus_32 : decode cX13_plus 32 = .ok (.iconst 0, 1) := by decide +kernel
theorem dX13_plus_33 : decode cX13_plus 33 = .ok (.ior, 1) := by decide +kernel
theorem dX13_plus_34 : decode cX13_plus 34 = .ok (.putfield 131, 3) := by decide +kernel
theorem dX13_plus_37 : decode cX13_plus 37 = .ok (.lload 5, 2) := by decide +kernel
theorem dX13_plus_39 : decode cX13_plus 39 = .ok (.lreturn, 1) := by decide +kernel
theorem dX13_plus_5 : decode cX13_plus 5 = .ok (.aload_n 0, 1) := by decide +kernel
theorem dX13_plus_6 : decode cX13_plus 6 = .ok (.dup, 1) := by decide +kernel
theorem dX13_plus_7 : decode cX13_plus 7 = .ok (.getfield 131, 3) := by decide +kernel
set_option maxRecDepth 20000 in
theorem in_X13_plus_X13 : ∀ w ∈ wsX130, w ∈ wsX13_plus := sub_r [2, 3, 4, 5, 6, 7, 8, 9, 10, 11, 12, 13, 14, 15, 16, 17, 18, 19, 20, 21, 22, 23, 24, 25, 26, 27, 28, 29, 30, 31, 32, 33, 34, 35, 36, 37, 38, 39, 40, 41, 42, 43, 44, 45, 46] rfl
set_option maxHeartbeats 4000000 in
set_option maxRecDepth 100000 in
theorem c_X13_plus (l : Launch) (D : va_G) (T : Nat → ClassId) (sz : Nat) (h0 : Nat) (q : Nat → Int32) (v : Int64) (w : Int64) (a : Nat → Nat) (x1 : Int64) (x2 : Int64) (hB : isB (q 14)) : Met l yX13_plus wsX13_plus ({ frames := 0, cells := 0, slots := 0, locals := 0 }) (pW [.ref h0, .long x1, .long x2] D T [(h0, .inr (10, (Value.int (q 0) :: Value.int (q 1) :: Value.int (q 2) :: Value.int (q 3) :: Value.int (q 4) :: Value.int (q 5) :: Value.int (q 6) :: Value.int (q 7) :: Value.ref (a 8) :: Value.ref (a 9) :: Value.ref (a 10) :: Value.ref (a 11) :: Value.ref (a 12) :: Value.ref (a 13) :: Value.int (q 14) :: Value.long v :: Value.long w :: Value.ref (a 17) :: Value.ref (a 18) :: Value.ref (a 19) :: Value.ref (a 20) :: Value.ref (a 21) :: Value.ref (a 22) :: Value.ref (a 23) :: Value.int (q 24) :: Value.ref (a 25) :: Value.int (q 26) :: Value.ref (a 27) :: Value.int (q 28) :: Value.int (q 29) :: Value.int (q 30) :: Value.int (q 31) :: Value.int (q 32) :: Value.int (q 33) :: Value.ref (a 34) :: Value.ref (a 35) :: Value.ref (a 36) :: Value.ref (a 37) :: Value.ref (a 38) :: Value.ref (a 39) :: Value.ref (a 40) :: Value.int (q 41) :: Value.ref (a 42) :: Value.int (q 43) :: Value.int (q 44) :: [])))] sz) (va_Ql (fun (r : Int64) (u : (Int32)) => (isB u) ∧ ((u : Int32).toInt = 0 ↔ (((q 14) : Int32).toInt = 0 ∧ fitA x1 x2)) ∧ (r = x1 + x2)) (bW D (va_A [(h0, .inr (10, (Value.int (q 0) :: Value.int (q 1) :: Value.int (q 2) :: Value.int (q 3) :: Value.int (q 4) :: Value.int (q 5) :: Value.int (q 6) :: Value.int (q 7) :: Value.ref (a 8) :: Value.ref (a 9) :: Value.ref (a 10) :: Value.ref (a 11) :: Value.ref (a 12) :: Value.ref (a 13) :: Value.int (q 14) :: Value.long v :: Value.long w :: Value.ref (a 17) :: Value.ref (a 18) :: Value.ref (a 19) :: Value.ref (a 20) :: Value.ref (a 21) :: Value.ref (a 22) :: Value.ref (a 23) :: Value.int (q 24) :: Value.ref (a 25) :: Value.int (q 26) :: Value.ref (a 27) :: Value.int (q 28) :: Value.int (q 29) :: Value.int (q 30) :: Value.int (q 31) :: Value.int (q 32) :: Value.int (q 33) :: Value.ref (a 34) :: Value.ref (a 35) :: Value.ref (a 36) :: Value.ref (a 37) :: Value.ref (a 38) :: Value.ref (a 39) :: Value.ref (a 40) :: Value.int (q 41) :: Value.ref (a 42) :: Value.int (q 43) :: Value.int (q 44) :: [])))] sz) (fun (u : (Int32)) => [(h0, .inr (10, (Value.int (q 0) :: Value.int (q 1) :: Value.int (q 2) :: Value.int (q 3) :: Value.int (q 4) :: Value.int (q 5) :: Value.int (q 6) :: Value.int (q 7) :: Value.ref (a 8) :: Value.ref (a 9) :: Value.ref (a 10) :: Value.ref (a 11) :: Value.ref (a 12) :: Value.ref (a 13) :: Value.int u :: Value.long v :: Value.long w :: Value.ref (a 17) :: Value.ref (a 18) :: Value.ref (a 19) :: Value.ref (a 20) :: Value.ref (a 21) :: Value.ref (a 22) :: Value.ref (a 23) :: Value.int (q 24) :: Value.ref (a 25) :: Value.int (q 26) :: Value.ref (a 27) :: Value.int (q 28) :: Value.int (q 29) :: Value.int (q 30) :: Value.int (q 31) :: Value.int (q 32) :: Value.int (q 33) :: Value.ref (a 34) :: Value.ref (a 35) :: Value.ref (a 36) :: Value.ref (a 37) :: Value.ref (a 38) :: Value.ref (a 39) :: Value.ref (a 40) :: Value.int (q 41) :: Value.ref (a 42) :: Value.int (q 43) :: Value.int (q 44) :: [])))])) (va_A [(h0, .inr (10, (Value.int (q 0) :: Value.int (q 1) :: Value.int (q 2) :: Value.int (q 3) :: Value.int (q 4) :: Value.int (q 5) :: Value.int (q 6) :: Value.int (q 7) :: Value.ref (a 8) :: Value.ref (a 9) :: Value.ref (a 10) :: Value.ref (a 11) :: Value.ref (a 12) :: Value.ref (a 13) :: Value.int (q 14) :: Value.long v :: Value.long w :: Value.ref (a 17) :: Value.ref (a 18) :: Value.ref (a 19) :: Value.ref (a 20) :: Value.ref (a 21) :: Value.ref (a 22) :: Value.ref (a 23) :: Value.int (q 24) :: Value.ref (a 25) :: Value.int (q 26) :: Value.ref (a 27) :: Value.int (q 28) :: Value.int (q 29) :: Value.int (q 30) :: Value.int (q 31) :: Value.int (q 32) :: Value.int (q 33) :: Value.ref (a 34) :: Value.ref (a 35) :: Value.ref (a 36) :: Value.ref (a 37) :: Value.ref (a 38) :: Value.ref (a 39) :: Value.ref (a 40) :: Value.int (q 41) :: Value.ref (a 42) :: Value.int (q 43) :: Value.int (q 44) :: [])))] sz)) 0 0 (va_A [(h0, .inr (10, (Value.int (q 0) :: Value.int (q 1) :: Value.int (q 2) :: Value.int (q 3) :: Value.int (q 4) :: Value.int (q 5) :: Value.int (q 6) :: Value.int (q 7) :: Value.ref (a 8) :: Value.ref (a 9) :: Value.ref (a 10) :: Value.ref (a 11) :: Value.ref (a 12) :: Value.ref (a 13) :: Value.int (q 14) :: Value.long v :: Value.long w :: Value.ref (a 17) :: Value.ref (a 18) :: Value.ref (a 19) :: Value.ref (a 20) :: Value.ref (a 21) :: Value.ref (a 22) :: Value.ref (a 23) :: Value.int (q 24) :: Value.ref (a 25) :: Value.int (q 26) :: Value.ref (a 27) :: Value.int (q 28) :: Value.int (q 29) :: Value.int (q 30) :: Value.int (q 31) :: Value.int (q 32) :: Value.int (q 33) :: Value.ref (a 34) :: Value.ref (a 35) :: Value.ref (a 36) :: Value.ref (a 37) :: Value.ref (a 38) :: Value.ref (a 39) :: Value.ref (a 40) :: Value.int (q 41) :: Value.ref (a 42) :: Value.int (q 43) :: Value.int (q 44) :: [])))] sz) := by
  refine Met.ofW (cc := cX13_plus) (maxL := 7) (ret := (some .long)) (by decide +kernel) rfl ?_
  intro p e s m args below meth c s₁ B hml hv
  obtain ⟨rfl, hsz, hP, hE, hD0⟩ := hv
  have hx := B.exec
  have hb := B.bytes
  have hr := B.returns
  have hts := atoms_spec (ws := wsX13_plus) B.pre
  have hown : s.vm.findClass RX13 = some m.cls := findClass_of_methodNamed B.named
  have hlocks := B.notSynchronized
  subst hsz
  have hD := hD0.self (sz := s.heap.size)
  generalize hAe : va_A [(h0, .inr (10, (Value.int (q 0) :: Value.int (q 1) :: Value.int (q 2) :: Value.int (q 3) :: Value.int (q 4) :: Value.int (q 5) :: Value.int (q 6) :: Value.int (q 7) :: Value.ref (a 8) :: Value.ref (a 9) :: Value.ref (a 10) :: Value.ref (a 11) :: Value.ref (a 12) :: Value.ref (a 13) :: Value.int (q 14) :: Value.long v :: Value.long w :: Value.ref (a 17) :: Value.ref (a 18) :: Value.ref (a 19) :: Value.ref (a 20) :: Value.ref (a 21) :: Value.ref (a 22) :: Value.ref (a 23) :: Value.int (q 24) :: Value.ref (a 25) :: Value.int (q 26) :: Value.ref (a 27) :: Value.int (q 28) :: Value.int (q 29) :: Value.int (q 30) :: Value.int (q 31) :: Value.int (q 32) :: Value.int (q 33) :: Value.ref (a 34) :: Value.ref (a 35) :: Value.ref (a 36) :: Value.ref (a 37) :: Value.ref (a 38) :: Value.ref (a 39) :: Value.ref (a 40) :: Value.int (q 41) :: Value.ref (a 42) :: Value.int (q 43) :: Value.int (q 44) :: [])))] s.heap.size = A at hD ⊢
  have hA : ∀ q : Nat, s.heap.size ≤ q → A q := fun q h => by rw [← hAe]; exact Or.inr h
  have hS : va_S A s.heap s.heap [] := va_S.rf
  have hP : va_P D vwCl [(h0, .inr (10, (Value.int (q 0) :: Value.int (q 1) :: Value.int (q 2) :: Value.int (q 3) :: Value.int (q 4) :: Value.int (q 5) :: Value.int (q 6) :: Value.int (q 7) :: Value.ref (a 8) :: Value.ref (a 9) :: Value.ref (a 10) :: Value.ref (a 11) :: Value.ref (a 12) :: Value.ref (a 13) :: Value.int (q 14) :: Value.long v :: Value.long w :: Value.ref (a 17) :: Value.ref (a 18) :: Value.ref (a 19) :: Value.ref (a 20) :: Value.ref (a 21) :: Value.ref (a 22) :: Value.ref (a 23) :: Value.int (q 24) :: Value.ref (a 25) :: Value.int (q 26) :: Value.ref (a 27) :: Value.int (q 28) :: Value.int (q 29) :: Value.int (q 30) :: Value.int (q 31) :: Value.int (q 32) :: Value.int (q 33) :: Value.ref (a 34) :: Value.ref (a 35) :: Value.ref (a 36) :: Value.ref (a 37) :: Value.ref (a 38) :: Value.ref (a 39) :: Value.ref (a 40) :: Value.int (q 41) :: Value.ref (a 42) :: Value.int (q 43) :: Value.int (q 44) :: [])))] s.heap := hP
  have hl := lv_entry ([.ref h0, .long x1, .long x2]) (n := 7) (Nat.le_of_ble_eq_true rfl)
  rw [lg_entry_eq]
  generalize (lg_sl ([.ref h0, .long x1, .long x2]) ++ List.replicate (7 - (lg_sl ([.ref h0, .long x1, .long x2])).length) Slot.unset).toArray = ls at hl ⊢
  have hl : lv_has ls 7 [(0, .ref h0), (1, .long x1), (3, .long x2)] := hl
  clear hD0
  refine lv_lload_n hx hb dX13_plus_0 rfl (lv_at hl 1 rfl) ?_
  refine lv_lload_n hx hb dX13_plus_1 rfl (lv_at hl 2 rfl) ?_
  refine lv_ladd hx hb dX13_plus_2 ?_
  refine lv_topl (fun z_1 ez_1 => ?_)
  refine lv_lstore (lv' := [(5, .long z_1), (0, .ref h0), (1, .long x1), (3, .long x2)]) hx hb dX13_plus_3 hl (by decide +kernel) rfl (fun ls hl => ?_)
  refine lv_aload_n hx hb dX13_plus_5 rfl (lv_at hl 1 rfl) ?_
  refine lv_dup hx hb dX13_plus_6 rfl ?_
  refine va_get (D := D) (ci := 10) (v := .int (q 14)) (C := RX13) (T := TX13) (N := 45) hx hb hts in_X13_plus_X13 hown hE.1 hP 0 rfl rfl 14 (by decide +kernel) (hts (.fieldLink RX13 131 "ClauseBookModel" "isMuch" "Z") (List.mem_of_getElem? (i := 1) rfl)) (fun _ h9 => h9) rfl dX13_plus_7 ?_
  refine lv_lload_n hx hb dX13_plus_10 rfl (lv_at hl 2 rfl) ?_
  refine lv_lload hx hb dX13_plus_11 (lv_at hl 0 rfl) ?_
  refine lv_lxor hx hb dX13_plus_13 ?_
  refine lv_lconst (v := 0) hx hb dX13_plus_14 (by decide +kernel) ?_
  refine W.lcmp hx hb dX13_plus_15 ?_
  refine lv_if_ge (tgt := 32) hx hb dX13_plus_16 (by decide +kernel) (fun c_2 => ?_) (fun c_2 => ?_)
  · rw [lcmp_ge] at c_2
    try rw [tl_0] at c_2
    refine lv_iconst (v := 0) hx hb dX13_plus_32 (by decide +kernel) ?_
    refine lv_ior hx hb dX13_plus_33 ?_
    refine lv_topi (fun z_3 ez_3 => ?_)
    have hBz_3 : isB z_3 := by rw [ez_3]; exact isB.or hB isB0
    have hOz_3 : z_3.toInt = 0 → ((q 14) : Int32).toInt = 0 ∧ (0 : Int32).toInt = 0 := by rw [ez_3]; exact isB.or0 hB isB0
    refine va_put (D := D) (ci := 10) (v := .int z_3) (ty := .boolean) (C := RX13) (T := TX13) (N := 45) hx hb hts in_X13_plus_X13 tyX13 tyX13_ok nmX13 hown hE.1 hP hD hS 0 rfl rfl 14 (by decide +kernel) (hts (.fieldLink RX13 131 "ClauseBookModel" "isMuch" "Z") (List.mem_of_getElem? (i := 1) rfl)) (fun _ h9 => h9) rfl (by decide +kernel) (isB.nar hBz_3) (isB.fits hBz_3) (Nat.le_of_ble_eq_true rfl) dX13_plus_34 (fun H locs hP hD hS => ?_)
    obtain ⟨hP, hD⟩ := wPD [(h0, .inr (10, (Value.int (q 0) :: Value.int (q 1) :: Value.int (q 2) :: Value.int (q 3) :: Value.int (q 4) :: Value.int (q 5) :: Value.int (q 6) :: Value.int (q 7) :: Value.ref (a 8) :: Value.ref (a 9) :: Value.ref (a 10) :: Value.ref (a 11) :: Value.ref (a 12) :: Value.ref (a 13) :: Value.int z_3 :: Value.long v :: Value.long w :: Value.ref (a 17) :: Value.ref (a 18) :: Value.ref (a 19) :: Value.ref (a 20) :: Value.ref (a 21) :: Value.ref (a 22) :: Value.ref (a 23) :: Value.int (q 24) :: Value.ref (a 25) :: Value.int (q 26) :: Value.ref (a 27) :: Value.int (q 28) :: Value.int (q 29) :: Value.int (q 30) :: Value.int (q 31) :: Value.int (q 32) :: Value.int (q 33) :: Value.ref (a 34) :: Value.ref (a 35) :: Value.ref (a 36) :: Value.ref (a 37) :: Value.ref (a 38) :: Value.ref (a 39) :: Value.ref (a 40) :: Value.int (q 41) :: Value.ref (a 42) :: Value.int (q 43) :: Value.int (q 44) :: [])))] hP hD rfl
    refine lv_lload hx hb dX13_plus_37 (lv_at hl 0 rfl) ?_
    exact W.lret hx hb hr (fun t ht hW => ⟨⟨_, z_3, rfl, ⟨(show isB z_3 from hBz_3), (show (z_3 : Int32).toInt = 0 ↔ (((q 14) : Int32).toInt = 0 ∧ fitA x1 x2) from ⟨(fun h9 => ⟨(hOz_3 h9).1, ((fitA_iff ez_1).2 (by omega))⟩), (fun h9 => by rw [ez_3]; exact or_0 h9.1)⟩), (show z_1 = x1 + x2 from ez_1)⟩, by rw [ht]; exact hP.sub [0] rfl, hD.sub [0] (by decide +kernel) rfl⟩, hS.F ht⟩) hS.2.2 dX13_plus_39
  · rw [lcmp_ge] at c_2
    try rw [tl_0] at c_2
    refine lv_lload_n hx hb dX13_plus_19 rfl (lv_at hl 3 rfl) ?_
    refine lv_lload hx hb dX13_plus_20 (lv_at hl 0 rfl) ?_
    refine lv_lxor hx hb dX13_plus_22 ?_
    refine lv_lconst (v := 0) hx hb dX13_plus_23 (by decide +kernel) ?_
    refine W.lcmp hx hb dX13_plus_24 ?_
    refine lv_if_ge (tgt := 32) hx hb dX13_plus_25 (by decide +kernel) (fun c_4 => ?_) (fun c_4 => ?_)
    · rw [lcmp_ge] at c_4
      try rw [tl_0] at c_4
      refine lv_iconst (v := 0) hx hb dX13_plus_32 (by decide +kernel) ?_
      refine lv_ior hx hb dX13_plus_33 ?_
      refine lv_topi (fun z_5 ez_5 => ?_)
      have hBz_5 : isB z_5 := by rw [ez_5]; exact isB.or hB isB0
      have hOz_5 : z_5.toInt = 0 → ((q 14) : Int32).toInt = 0 ∧ (0 : Int32).toInt = 0 := by rw [ez_5]; exact isB.or0 hB isB0
      refine va_put (D := D) (ci := 10) (v := .int z_5) (ty := .boolean) (C := RX13) (T := TX13) (N := 45) hx hb hts in_X13_plus_X13 tyX13 tyX13_ok nmX13 hown hE.1 hP hD hS 0 rfl rfl 14 (by decide +kernel) (hts (.fieldLink RX13 131 "ClauseBookModel" "isMuch" "Z") (List.mem_of_getElem? (i := 1) rfl)) (fun _ h9 => h9) rfl (by decide +kernel) (isB.nar hBz_5) (isB.fits hBz_5) (Nat.le_of_ble_eq_true rfl) dX13_plus_34 (fun H locs hP hD hS => ?_)
      obtain ⟨hP, hD⟩ := wPD [(h0, .inr (10, (Value.int (q 0) :: Value.int (q 1) :: Value.int (q 2) :: Value.int (q 3) :: Value.int (q 4) :: Value.int (q 5) :: Value.int (q 6) :: Value.int (q 7) :: Value.ref (a 8) :: Value.ref (a 9) :: Value.ref (a 10) :: Value.ref (a 11) :: Value.ref (a 12) :: Value.ref (a 13) :: Value.int z_5 :: Value.long v :: Value.long w :: Value.ref (a 17) :: Value.ref (a 18) :: Value.ref (a 19) :: Value.ref (a 20) :: Value.ref (a 21) :: Value.ref (a 22) :: Value.ref (a 23) :: Value.int (q 24) :: Value.ref (a 25) :: Value.int (q 26) :: Value.ref (a 27) :: Value.int (q 28) :: Value.int (q 29) :: Value.int (q 30) :: Value.int (q 31) :: Value.int (q 32) :: Value.int (q 33) :: Value.ref (a 34) :: Value.ref (a 35) :: Value.ref (a 36) :: Value.ref (a 37) :: Value.ref (a 38) :: Value.ref (a 39) :: Value.ref (a 40) :: Value.int (q 41) :: Value.ref (a 42) :: Value.int (q 43) :: Value.int (q 44) :: [])))] hP hD rfl
      refine lv_lload hx hb dX13_plus_37 (lv_at hl 0 rfl) ?_
      exact W.lret hx hb hr (fun t ht hW => ⟨⟨_, z_5, rfl, ⟨(show isB z_5 from hBz_5), (show (z_5 : Int32).toInt = 0 ↔ (((q 14) : Int32).toInt = 0 ∧ fitA x1 x2) from ⟨(fun h9 => ⟨(hOz_5 h9).1, ((fitA_iff ez_1).2 (by omega))⟩), (fun h9 => by rw [ez_5]; exact or_0 h9.1)⟩), (show z_1 = x1 + x2 from ez_1)⟩, by rw [ht]; exact hP.sub [0] rfl, hD.sub [0] (by decide +kernel) rfl⟩, hS.F ht⟩) hS.2.2 dX13_plus_39
    · rw [lcmp_ge] at c_4
      try rw [tl_0] at c_4
      refine lv_iconst (v := 1) hx hb dX13_plus_28 (by decide +kernel) ?_
      refine lv_goto (tgt := 33) hx hb dX13_plus_29 (by decide +kernel) ?_
      refine lv_ior hx hb dX13_plus_33 ?_
      refine lv_topi (fun z_6 ez_6 => ?_)
      have hBz_6 : isB z_6 := by rw [ez_6]; exact isB.or hB isB1
      have hOz_6 : z_6.toInt = 0 → ((q 14) : Int32).toInt = 0 ∧ (1 : Int32).toInt = 0 := by rw [ez_6]; exact isB.or0 hB isB1
      refine va_put (D := D) (ci := 10) (v := .int z_6) (ty := .boolean) (C := RX13) (T := TX13) (N := 45) hx hb hts in_X13_plus_X13 tyX13 tyX13_ok nmX13 hown hE.1 hP hD hS 0 rfl rfl 14 (by decide +kernel) (hts (.fieldLink RX13 131 "ClauseBookModel" "isMuch" "Z") (List.mem_of_getElem? (i := 1) rfl)) (fun _ h9 => h9) rfl (by decide +kernel) (isB.nar hBz_6) (isB.fits hBz_6) (Nat.le_of_ble_eq_true rfl) dX13_plus_34 (fun H locs hP hD hS => ?_)
      obtain ⟨hP, hD⟩ := wPD [(h0, .inr (10, (Value.int (q 0) :: Value.int (q 1) :: Value.int (q 2) :: Value.int (q 3) :: Value.int (q 4) :: Value.int (q 5) :: Value.int (q 6) :: Value.int (q 7) :: Value.ref (a 8) :: Value.ref (a 9) :: Value.ref (a 10) :: Value.ref (a 11) :: Value.ref (a 12) :: Value.ref (a 13) :: Value.int z_6 :: Value.long v :: Value.long w :: Value.ref (a 17) :: Value.ref (a 18) :: Value.ref (a 19) :: Value.ref (a 20) :: Value.ref (a 21) :: Value.ref (a 22) :: Value.ref (a 23) :: Value.int (q 24) :: Value.ref (a 25) :: Value.int (q 26) :: Value.ref (a 27) :: Value.int (q 28) :: Value.int (q 29) :: Value.int (q 30) :: Value.int (q 31) :: Value.int (q 32) :: Value.int (q 33) :: Value.ref (a 34) :: Value.ref (a 35) :: Value.ref (a 36) :: Value.ref (a 37) :: Value.ref (a 38) :: Value.ref (a 39) :: Value.ref (a 40) :: Value.int (q 41) :: Value.ref (a 42) :: Value.int (q 43) :: Value.int (q 44) :: [])))] hP hD rfl
      refine lv_lload hx hb dX13_plus_37 (lv_at hl 0 rfl) ?_
      exact W.lret hx hb hr (fun t ht hW => ⟨⟨_, z_6, rfl, ⟨(show isB z_6 from hBz_6), (show (z_6 : Int32).toInt = 0 ↔ (((q 14) : Int32).toInt = 0 ∧ fitA x1 x2) from ⟨(fun h9 => by have h8 := (hOz_6 h9).2; rw [ti_1] at h8; omega), (fun h9 => absurd h9.2 (fun h9 => absurd ((fitA_iff ez_1).1 h9) (by omega)))⟩), (show z_1 = x1 + x2 from ez_1)⟩, by rw [ht]; exact hP.sub [0] rfl, hD.sub [0] (by decide +kernel) rfl⟩, hS.F ht⟩) hS.2.2 dX13_plus_39
theorem dX13_becomes_0 : decode cX13_becomes 0 = .ok (.aload_n 0, 1) := by decide +kernel
theorem dX13_becomes_1 : decode cX13_becomes 1 = .ok (.getfield 131, 3) := by decide +kernel
theorem dX13_becomes_12 : decode cX13_becomes 12 = .ok (.lstore 5, 2) := by decide +kernel
theorem dX13_becomes_14 : decode cX13_becomes 14 = .ok (.aload_n 0, 1) := by decide +kernel
theorem dX13_becomes_15 : decode cX13_becomes 15 = .ok (.lload_n 1, 1) := by decide +kernel
theorem dX13_becomes_16 : decode cX13_becomes 16 = .ok (.lload 5, 2) := by decide +kernel
theorem dX13_becomes_18 : decode cX13_becomes 18 = .ok (.ldiv, 1) := by decide +kernel
theorem dX13_becomes_19 : decode cX13_becomes 19 = .ok (.putfield 145, 3) := by decide +kernel
theorem dX13_becomes_22 : decode cX13_becomes 22 = .ok (.aload_n 0, 1) := by decide +kernel
theorem dX13_becomes_23 : decode cX13_becomes 23 = .ok (.lload_n 3, 1) := by decide +kernel
theorem dX13_becomes_24 : decode cX13_becomes 24 = .ok (.lload 5, 2) := by decide +kernel
theorem dX13_becomes_26 : decode cX13_becomes 26 = .ok (.ldiv, 1) := by decide +kernel
theorem dX13_becomes_27 : decode cX13_becomes 27 = .ok (.putfield 149, 3) := by decide +kernel
theorem dX13_becomes_30 : decode cX13_becomes 30 = .ok (.return_, 1) := by decide +kernel
theorem dX13_becomes_4 : decode cX13_becomes 4 = .ok (.ifCond .ne 26, 3) := by decide +kernel
theorem dX13_becomes_7 : decode cX13_becomes 7 = .ok (.lload_n 1, 1) := by decide +kernel
theorem dX13_becomes_8 : decode cX13_becomes 8 = .ok (.lload_n 3, 1) := by decide +kernel
theorem dX13_becomes_9 : decode cX13_becomes 9 = .ok (.invokestatic 141, 3) := by decide +kernel
set_option maxRecDepth 20000 in
theorem ggX13_becomes_X13_divisor : GoodIn wsX13_becomes wsX13_divisor := goodIn_r _ [7] rfl (by decide +kernel)
set_option maxRecDepth 20000 in
theorem gX13_becomes_X13_divisor : GoodIn wsX13_becomes (va_wsS RX13 141 yX13_divisor wsX13_divisor) := goodIn_app (goodIn_of _ (by decide +kernel)) ggX13_becomes_X13_divisor
theorem hs_X13_divisor : yX13_divisor.cls ≠ "java/lang/invoke/MethodHandle" ∧ yX13_divisor.cls ≠ "java/lang/invoke/VarHandle" ∧ (parseMethodDescriptor yX13_divisor.desc).map (fun d => d.parameters.length) = some 2 := by decide +kernel
set_option maxRecDepth 20000 in
theorem in_X13_becomes_X13 : ∀ w ∈ wsX130, w ∈ wsX13_becomes := sub_r [8, 9, 10, 11, 12, 13, 14, 15, 16, 17, 18, 19, 20, 21, 22, 23, 24, 25, 26, 27, 28, 29, 30, 31, 32, 33, 34, 35, 36, 37, 38, 39, 40, 41, 42, 43, 44, 45, 46, 47, 48, 49, 50, 51, 52] rfl
set_option maxHeartbeats 4000000 in
set_option maxRecDepth 100000 in
theorem c_X13_becomes (l : Launch) (D : va_G) (T : Nat → ClassId) (sz : Nat) (h0 : Nat) (q : Nat → Int32) (v : Int64) (w : Int64) (a : Nat → Nat) (x1 : Int64) (x2 : Int64) (hp : ((q 14) : Int32).toInt = 0 → 1 ≤ x2.toInt) : Met l yX13_becomes wsX13_becomes ({ frames := 1, cells := 0, slots := 0, locals := 29 }) (pW [.ref h0, .long x1, .long x2] D T [(h0, .inr (10, (Value.int (q 0) :: Value.int (q 1) :: Value.int (q 2) :: Value.int (q 3) :: Value.int (q 4) :: Value.int (q 5) :: Value.int (q 6) :: Value.int (q 7) :: Value.ref (a 8) :: Value.ref (a 9) :: Value.ref (a 10) :: Value.ref (a 11) :: Value.ref (a 12) :: Value.ref (a 13) :: Value.int (q 14) :: Value.long v :: Value.long w :: Value.ref (a 17) :: Value.ref (a 18) :: Value.ref (a 19) :: Value.ref (a 20) :: Value.ref (a 21) :: Value.ref (a 22) :: Value.ref (a 23) :: Value.int (q 24) :: Value.ref (a 25) :: Value.int (q 26) :: Value.ref (a 27) :: Value.int (q 28) :: Value.int (q 29) :: Value.int (q 30) :: Value.int (q 31) :: Value.int (q 32) :: Value.int (q 33) :: Value.ref (a 34) :: Value.ref (a 35) :: Value.ref (a 36) :: Value.ref (a 37) :: Value.ref (a 38) :: Value.ref (a 39) :: Value.ref (a 40) :: Value.int (q 41) :: Value.ref (a 42) :: Value.int (q 43) :: Value.int (q 44) :: [])))] sz) (va_Qv (fun (u : (Int64) × (Int64)) => (((q 14) : Int32).toInt = 0 ∨ 1 ≤ w.toInt → 1 ≤ u.2.toInt) ∧ (((q 14) : Int32).toInt = 0 → ((u.1, u.2) : Int64 × Int64) = redW x1 x2)) (bW D (va_A [(h0, .inr (10, (Value.int (q 0) :: Value.int (q 1) :: Value.int (q 2) :: Value.int (q 3) :: Value.int (q 4) :: Value.int (q 5) :: Value.int (q 6) :: Value.int (q 7) :: Value.ref (a 8) :: Value.ref (a 9) :: Value.ref (a 10) :: Value.ref (a 11) :: Value.ref (a 12) :: Value.ref (a 13) :: Value.int (q 14) :: Value.long v :: Value.long w :: Value.ref (a 17) :: Value.ref (a 18) :: Value.ref (a 19) :: Value.ref (a 20) :: Value.ref (a 21) :: Value.ref (a 22) :: Value.ref (a 23) :: Value.int (q 24) :: Value.ref (a 25) :: Value.int (q 26) :: Value.ref (a 27) :: Value.int (q 28) :: Value.int (q 29) :: Value.int (q 30) :: Value.int (q 31) :: Value.int (q 32) :: Value.int (q 33) :: Value.ref (a 34) :: Value.ref (a 35) :: Value.ref (a 36) :: Value.ref (a 37) :: Value.ref (a 38) :: Value.ref (a 39) :: Value.ref (a 40) :: Value.int (q 41) :: Value.ref (a 42) :: Value.int (q 43) :: Value.int (q 44) :: [])))] sz) (fun (u : (Int64) × (Int64)) => [(h0, .inr (10, (Value.int (q 0) :: Value.int (q 1) :: Value.int (q 2) :: Value.int (q 3) :: Value.int (q 4) :: Value.int (q 5) :: Value.int (q 6) :: Value.int (q 7) :: Value.ref (a 8) :: Value.ref (a 9) :: Value.ref (a 10) :: Value.ref (a 11) :: Value.ref (a 12) :: Value.ref (a 13) :: Value.int (q 14) :: Value.long u.1 :: Value.long u.2 :: Value.ref (a 17) :: Value.ref (a 18) :: Value.ref (a 19) :: Value.ref (a 20) :: Value.ref (a 21) :: Value.ref (a 22) :: Value.ref (a 23) :: Value.int (q 24) :: Value.ref (a 25) :: Value.int (q 26) :: Value.ref (a 27) :: Value.int (q 28) :: Value.int (q 29) :: Value.int (q 30) :: Value.int (q 31) :: Value.int (q 32) :: Value.int (q 33) :: Value.ref (a 34) :: Value.ref (a 35) :: Value.ref (a 36) :: Value.ref (a 37) :: Value.ref (a 38) :: Value.ref (a 39) :: Value.ref (a 40) :: Value.int (q 41) :: Value.ref (a 42) :: Value.int (q 43) :: Value.int (q 44) :: [])))])) (va_A [(h0, .inr (10, (Value.int (q 0) :: Value.int (q 1) :: Value.int (q 2) :: Value.int (q 3) :: Value.int (q 4) :: Value.int (q 5) :: Value.int (q 6) :: Value.int (q 7) :: Value.ref (a 8) :: Value.ref (a 9) :: Value.ref (a 10) :: Value.ref (a 11) :: Value.ref (a 12) :: Value.ref (a 13) :: Value.int (q 14) :: Value.long v :: Value.long w :: Value.ref (a 17) :: Value.ref (a 18) :: Value.ref (a 19) :: Value.ref (a 20) :: Value.ref (a 21) :: Value.ref (a 22) :: Value.ref (a 23) :: Value.int (q 24) :: Value.ref (a 25) :: Value.int (q 26) :: Value.ref (a 27) :: Value.int (q 28) :: Value.int (q 29) :: Value.int (q 30) :: Value.int (q 31) :: Value.int (q 32) :: Value.int (q 33) :: Value.ref (a 34) :: Value.ref (a 35) :: Value.ref (a 36) :: Value.ref (a 37) :: Value.ref (a 38) :: Value.ref (a 39) :: Value.ref (a 40) :: Value.int (q 41) :: Value.ref (a 42) :: Value.int (q 43) :: Value.int (q 44) :: [])))] sz)) 0 0 (va_A [(h0, .inr (10, (Value.int (q 0) :: Value.int (q 1) :: Value.int (q 2) :: Value.int (q 3) :: Value.int (q 4) :: Value.int (q 5) :: Value.int (q 6) :: Value.int (q 7) :: Value.ref (a 8) :: Value.ref (a 9) :: Value.ref (a 10) :: Value.ref (a 11) :: Value.ref (a 12) :: Value.ref (a 13) :: Value.int (q 14) :: Value.long v :: Value.long w :: Value.ref (a 17) :: Value.ref (a 18) :: Value.ref (a 19) :: Value.ref (a 20) :: Value.ref (a 21) :: Value.ref (a 22) :: Value.ref (a 23) :: Value.int (q 24) :: Value.ref (a 25) :: Value.int (q 26) :: Value.ref (a 27) :: Value.int (q 28) :: Value.int (q 29) :: Value.int (q 30) :: Value.int (q 31) :: Value.int (q 32) :: Value.int (q 33) :: Value.ref (a 34) :: Value.ref (a 35) :: Value.ref (a 36) :: Value.ref (a 37) :: Value.ref (a 38) :: Value.ref (a 39) :: Value.ref (a 40) :: Value.int (q 41) :: Value.ref (a 42) :: Value.int (q 43) :: Value.int (q 44) :: [])))] sz) := by
  refine Met.ofW (cc := cX13_becomes) (maxL := 7) (ret := none) (by decide +kernel) rfl ?_
  intro p e s m args below meth c s₁ B hml hv
  obtain ⟨rfl, hsz, hP, hE, hD0⟩ := hv
  have hx := B.exec
  have hb := B.bytes
  have hr := B.returns
  have hts := atoms_spec (ws := wsX13_becomes) B.pre
  have hown : s.vm.findClass RX13 = some m.cls := findClass_of_methodNamed B.named
  have hlocks := B.notSynchronized
  subst hsz
  have hD := hD0.self (sz := s.heap.size)
  generalize hAe : va_A [(h0, .inr (10, (Value.int (q 0) :: Value.int (q 1) :: Value.int (q 2) :: Value.int (q 3) :: Value.int (q 4) :: Value.int (q 5) :: Value.int (q 6) :: Value.int (q 7) :: Value.ref (a 8) :: Value.ref (a 9) :: Value.ref (a 10) :: Value.ref (a 11) :: Value.ref (a 12) :: Value.ref (a 13) :: Value.int (q 14) :: Value.long v :: Value.long w :: Value.ref (a 17) :: Value.ref (a 18) :: Value.ref (a 19) :: Value.ref (a 20) :: Value.ref (a 21) :: Value.ref (a 22) :: Value.ref (a 23) :: Value.int (q 24) :: Value.ref (a 25) :: Value.int (q 26) :: Value.ref (a 27) :: Value.int (q 28) :: Value.int (q 29) :: Value.int (q 30) :: Value.int (q 31) :: Value.int (q 32) :: Value.int (q 33) :: Value.ref (a 34) :: Value.ref (a 35) :: Value.ref (a 36) :: Value.ref (a 37) :: Value.ref (a 38) :: Value.ref (a 39) :: Value.ref (a 40) :: Value.int (q 41) :: Value.ref (a 42) :: Value.int (q 43) :: Value.int (q 44) :: [])))] s.heap.size = A at hD ⊢
  have hA : ∀ q : Nat, s.heap.size ≤ q → A q := fun q h => by rw [← hAe]; exact Or.inr h
  have hS : va_S A s.heap s.heap [] := va_S.rf
  have hP : va_P D vwCl [(h0, .inr (10, (Value.int (q 0) :: Value.int (q 1) :: Value.int (q 2) :: Value.int (q 3) :: Value.int (q 4) :: Value.int (q 5) :: Value.int (q 6) :: Value.int (q 7) :: Value.ref (a 8) :: Value.ref (a 9) :: Value.ref (a 10) :: Value.ref (a 11) :: Value.ref (a 12) :: Value.ref (a 13) :: Value.int (q 14) :: Value.long v :: Value.long w :: Value.ref (a 17) :: Value.ref (a 18) :: Value.ref (a 19) :: Value.ref (a 20) :: Value.ref (a 21) :: Value.ref (a 22) :: Value.ref (a 23) :: Value.int (q 24) :: Value.ref (a 25) :: Value.int (q 26) :: Value.ref (a 27) :: Value.int (q 28) :: Value.int (q 29) :: Value.int (q 30) :: Value.int (q 31) :: Value.int (q 32) :: Value.int (q 33) :: Value.ref (a 34) :: Value.ref (a 35) :: Value.ref (a 36) :: Value.ref (a 37) :: Value.ref (a 38) :: Value.ref (a 39) :: Value.ref (a 40) :: Value.int (q 41) :: Value.ref (a 42) :: Value.int (q 43) :: Value.int (q 44) :: [])))] s.heap := hP
  have hl := lv_entry ([.ref h0, .long x1, .long x2]) (n := 7) (Nat.le_of_ble_eq_true rfl)
  rw [lg_entry_eq]
  generalize (lg_sl ([.ref h0, .long x1, .long x2]) ++ List.replicate (7 - (lg_sl ([.ref h0, .long x1, .long x2])).length) Slot.unset).toArray = ls at hl ⊢
  have hl : lv_has ls 7 [(0, .ref h0), (1, .long x1), (3, .long x2)] := hl
  clear hD0
  refine lv_aload_n hx hb dX13_becomes_0 rfl (lv_at hl 0 rfl) ?_
  refine va_get (D := D) (ci := 10) (v := .int (q 14)) (C := RX13) (T := TX13) (N := 45) hx hb hts in_X13_becomes_X13 hown hE.1 hP 0 rfl rfl 14 (by decide +kernel) (hts (.fieldLink RX13 131 "ClauseBookModel" "isMuch" "Z") (List.mem_of_getElem? (i := 1) rfl)) (fun _ h9 => h9) rfl dX13_becomes_1 ?_
  refine lv_if_ne (tgt := 30) hx hb dX13_becomes_4 (by decide +kernel) (fun c_1 => ?_) (fun c_1 => ?_)
  · rw [fa_eq] at c_1
    try rw [ti_0] at c_1
    exact W.vret hx hb hr (fun t ht hW => ⟨⟨(v, w), rfl, ⟨(show ((q 14) : Int32).toInt = 0 ∨ 1 ≤ w.toInt → 1 ≤ w.toInt from (fun h9 => by first | omega | (subst_vars; exact div_pos64 (by omega) (by omega)))), (show ((q 14) : Int32).toInt = 0 → ((v, w) : Int64 × Int64) = redW x1 x2 from (fun h9 => by exfalso; omega))⟩, by rw [ht]; exact hP.sub [0] rfl, hD.sub [0] (by decide +kernel) rfl⟩, hS.F ht⟩) hS.2.2 dX13_becomes_30
  · rw [fa_eq] at c_1
    try rw [ti_0] at c_1
    refine lv_lload_n hx hb dX13_becomes_7 rfl (lv_at hl 1 rfl) ?_
    refine lv_lload_n hx hb dX13_becomes_8 rfl (lv_at hl 2 rfl) ?_
    refine vp_callSl (W.runS (As := [.long x1, .long x2]) (rest := []) ⟨hx, hb, hml, hown, hts⟩ (c_X13_divisor l D T x1 x2 (by omega)) (va_cwS 2 hts gX13_becomes_X13_divisor rfl rfl rfl hs_X13_divisor ⟨Nat.le_of_ble_eq_true rfl, Nat.le_of_ble_eq_true rfl⟩) (pR_S hP hE [] rfl) rfl rfl hl.1 rfl (lv_room (Nat.le_of_ble_eq_true rfl)) dX13_becomes_9 ⟨Nat.le_of_ble_eq_true rfl, Nat.le_of_ble_eq_true rfl⟩) (fun r_2 hr_2 => ?_)
    refine lv_lstore (lv' := [(5, .long r_2), (0, .ref h0), (1, .long x1), (3, .long x2)]) hx hb dX13_becomes_12 hl (by decide +kernel) rfl (fun ls hl => ?_)
    refine lv_aload_n hx hb dX13_becomes_14 rfl (lv_at hl 1 rfl) ?_
    refine lv_lload_n hx hb dX13_becomes_15 rfl (lv_at hl 2 rfl) ?_
    refine lv_lload hx hb dX13_becomes_16 (lv_at hl 0 rfl) ?_
    refine lv_ldiv hx hb dX13_becomes_18 (nz64 (by omega)) ?_
    refine lv_topl (fun z_3 ez_3 => ?_)
    refine va_put (D := D) (ci := 10) (v := .long z_3) (ty := .long) (C := RX13) (T := TX13) (N := 45) hx hb hts in_X13_becomes_X13 tyX13 tyX13_ok nmX13 hown hE.1 hP hD hS 0 rfl rfl 15 (by decide +kernel) (hts (.fieldLink RX13 145 "ClauseBookModel" "above" "J") (List.mem_of_getElem? (i := 2) rfl)) (fun _ h9 => h9) rfl (by decide +kernel) rfl rfl (Nat.le_of_ble_eq_true rfl) dX13_becomes_19 (fun H locs hP hD hS => ?_)
    obtain ⟨hP, hD⟩ := wPD [(h0, .inr (10, (Value.int (q 0) :: Value.int (q 1) :: Value.int (q 2) :: Value.int (q 3) :: Value.int (q 4) :: Value.int (q 5) :: Value.int (q 6) :: Value.int (q 7) :: Value.ref (a 8) :: Value.ref (a 9) :: Value.ref (a 10) :: Value.ref (a 11) :: Value.ref (a 12) :: Value.ref (a 13) :: Value.int (q 14) :: Value.long z_3 :: Value.long w :: Value.ref (a 17) :: Value.ref (a 18) :: Value.ref (a 19) :: Value.ref (a 20) :: Value.ref (a 21) :: Value.ref (a 22) :: Value.ref (a 23) :: Value.int (q 24) :: Value.ref (a 25) :: Value.int (q 26) :: Value.ref (a 27) :: Value.int (q 28) :: Value.int (q 29) :: Value.int (q 30) :: Value.int (q 31) :: Value.int (q 32) :: Value.int (q 33) :: Value.ref (a 34) :: Value.ref (a 35) :: Value.ref (a 36) :: Value.ref (a 37) :: Value.ref (a 38) :: Value.ref (a 39) :: Value.ref (a 40) :: Value.int (q 41) :: Value.ref (a 42) :: Value.int (q 43) :: Value.int (q 44) :: [])))] hP hD rfl
    refine lv_aload_n hx hb dX13_becomes_22 rfl (lv_at hl 1 rfl) ?_
    refine lv_lload_n hx hb dX13_becomes_23 rfl (lv_at hl 3 rfl) ?_
    refine lv_lload hx hb dX13_becomes_24 (lv_at hl 0 rfl) ?_
    refine lv_ldiv hx hb dX13_becomes_26 (nz64 (by omega)) ?_
    refine lv_topl (fun z_4 ez_4 => ?_)
    refine va_put (D := D) (ci := 10) (v := .long z_4) (ty := .long) (C := RX13) (T := TX13) (N := 45) hx hb hts in_X13_becomes_X13 tyX13 tyX13_ok nmX13 hown hE.1 hP hD hS 0 rfl rfl 16 (by decide +kernel) (hts (.fieldLink RX13 149 "ClauseBookModel" "below" "J") (List.mem_of_getElem? (i := 3) rfl)) (fun _ h9 => h9) rfl (by decide +kernel) rfl rfl (Nat.le_of_ble_eq_true rfl) dX13_becomes_27 (fun H locs hP hD hS => ?_)
    obtain ⟨hP, hD⟩ := wPD [(h0, .inr (10, (Value.int (q 0) :: Value.int (q 1) :: Value.int (q 2) :: Value.int (q 3) :: Value.int (q 4) :: Value.int (q 5) :: Value.int (q 6) :: Value.int (q 7) :: Value.ref (a 8) :: Value.ref (a 9) :: Value.ref (a 10) :: Value.ref (a 11) :: Value.ref (a 12) :: Value.ref (a 13) :: Value.int (q 14) :: Value.long z_3 :: Value.long z_4 :: Value.ref (a 17) :: Value.ref (a 18) :: Value.ref (a 19) :: Value.ref (a 20) :: Value.ref (a 21) :: Value.ref (a 22) :: Value.ref (a 23) :: Value.int (q 24) :: Value.ref (a 25) :: Value.int (q 26) :: Value.ref (a 27) :: Value.int (q 28) :: Value.int (q 29) :: Value.int (q 30) :: Value.int (q 31) :: Value.int (q 32) :: Value.int (q 33) :: Value.ref (a 34) :: Value.ref (a 35) :: Value.ref (a 36) :: Value.ref (a 37) :: Value.ref (a 38) :: Value.ref (a 39) :: Value.ref (a 40) :: Value.int (q 41) :: Value.ref (a 42) :: Value.int (q 43) :: Value.int (q 44) :: [])))] hP hD rfl
    exact W.vret hx hb hr (fun t ht hW => ⟨⟨(z_3, z_4), rfl, ⟨(show ((q 14) : Int32).toInt = 0 ∨ 1 ≤ w.toInt → 1 ≤ z_4.toInt from (fun h9 => by first | omega | (subst_vars; exact div_pos64 (by omega) (by omega)))), (show ((q 14) : Int32).toInt = 0 → ((z_3, z_4) : Int64 × Int64) = redW x1 x2 from (fun h9 => by rw [ez_3, ez_4]; exact red_by hr_2.1))⟩, by rw [ht]; exact hP.sub [0] rfl, hD.sub [0] (by decide +kernel) rfl⟩, hS.F ht⟩) hS.2.2 dX13_becomes_30
theorem dX13_multiplies_0 : decode cX13_multiplies 0 = .ok (.aload_n 0, 1) := by decide +kernel
theorem dX13_multiplies_1 : decode cX13_multiplies 1 = .ok (.lload_n 1, 1) := by decide +kernel
theorem dX13_multiplies_10 : decode cX13_multiplies 10 = .ok (.lload_n 3, 1) := by decide +kernel
theorem dX13_multiplies_11 : decode cX13_multiplies 11 = .ok (.lload 7, 2) := by decide +kernel
theorem dX13_multiplies_13 : decode cX13_multiplies 13 = .ok (.invokevirtual 152, 3) := by decide +kernel
theorem dX13_multiplies_16 : decode cX13_multiplies 16 = .ok (.lstore 11, 2) := by decide +kernel
theorem dX13_multiplies_18 : decode cX13_multiplies 18 = .ok (.aload_n 0, 1) := by decide +kernel
theorem dX13_multiplies_19 : decode cX13_multiplies 19 = .ok (.lload 9, 2) := by decide +kernel
theorem dX13_multiplies_2 : decode cX13_multiplies 2 = .ok (.lload 5, 2) := by decide +kernel
theorem dX13_multiplies_21 : decode cX13_multiplies 21 = .ok (.lload 11, 2) := by decide +kernel
theorem dX13_multiplies_23 : decode cX13_multiplies 23 = .ok (.invokevirtual 155, 3) := by decide +kernel
theorem dX13_multiplies_26 : decode cX13_multiplies 26 = .ok (.return_, 1) := by decide +kernel
theorem dX13_multiplies_4 : decode cX13_multiplies 4 = .ok (.invokevirtual 152, 3) := by decide +kernel
theorem dX13_multiplies_7 : decode cX13_multiplies 7 = .ok (.lstore 9, 2) := by decide +kernel
theorem dX13_multiplies_9 : decode cX13_multiplies 9 = .ok (.aload_n 0, 1) := by decide +kernel
set_option maxRecDepth 20000 in
theorem ggX13_multiplies_X13_becomes : GoodIn wsX13_multiplies wsX13_becomes := goodIn_r _ [12, 6, 13, 14, 15, 16, 4, 17, 18, 19, 20, 21, 22, 23, 24, 25, 26, 27, 28, 29, 30, 31, 32, 33, 34, 35, 36, 37, 38, 39, 40, 41, 42, 43, 44, 45, 46, 47, 48, 49, 50, 51, 52, 53, 54, 55, 56, 57, 58, 59, 60, 61, 62] rfl (by decide +kernel)
set_option maxRecDepth 20000 in
theorem ggX13_multiplies_X13_times : GoodIn wsX13_multiplies wsX13_times := goodIn_r _ [5, 6, 7, 8, 18, 19, 20, 21, 22, 23, 24, 25, 26, 27, 28, 29, 30, 31, 32, 33, 34, 35, 36, 37, 38, 39, 40, 41, 42, 43, 44, 45, 46, 47, 48, 49, 50, 51, 52, 53, 54, 55, 56, 57, 58, 59, 60, 61, 62] rfl (by decide +kernel)
set_option maxRecDepth 20000 in
theorem gX13_multiplies_X13_becomes : GoodIn wsX13_multiplies (wsV RX13 155 RX13 yX13_becomes wsX13_becomes) := goodIn_app (goodIn_r _ [9, 10, 11, 4] rfl (by decide +kernel)) ggX13_multiplies_X13_becomes
set_option maxRecDepth 20000 in
theorem gX13_multiplies_X13_times : GoodIn wsX13_multiplies (wsV RX13 152 RX13 yX13_times wsX13_times) := goodIn_app (goodIn_r _ [1, 2, 3, 4] rfl (by decide +kernel)) ggX13_multiplies_X13_times
theorem hv_X13_becomes : yX13_becomes.cls = RX13 ∧ yX13_becomes.cls ≠ "java/lang/invoke/MethodHandle" ∧ yX13_becomes.cls ≠ "java/lang/invoke/VarHandle" ∧ (parseMethodDescriptor yX13_becomes.desc).map (fun d => d.parameters.length) = some 2 := by decide +kernel
theorem hv_X13_times : yX13_times.cls = RX13 ∧ yX13_times.cls ≠ "java/lang/invoke/MethodHandle" ∧ yX13_times.cls ≠ "java/lang/invoke/VarHandle" ∧ (parseMethodDescriptor yX13_times.desc).map (fun d => d.parameters.length) = some 2 := by decide +kernel
set_option maxHeartbeats 4000000 in
set_option maxRecDepth 100000 in
theorem c_X13_multiplies (l : Launch) (D : va_G) (T : Nat → ClassId) (sz : Nat) (h0 : Nat) (q : Nat → Int32) (v : Int64) (w : Int64) (a : Nat → Nat) (x1 : Int64) (x2 : Int64) (x3 : Int64) (x4 : Int64) (hB : isB (q 14)) (hx2 : 1 ≤ x2.toInt) (hx4 : 1 ≤ x4.toInt) (hw : 1 ≤ w.toInt) : Met l yX13_multiplies wsX13_multiplies ({ frames := 2, cells := 0, slots := 0, locals := 55 }) (pW [.ref h0, .long x1, .long x2, .long x3, .long x4] D T [(h0, .inr (10, (Value.int (q 0) :: Value.int (q 1) :: Value.int (q 2) :: Value.int (q 3) :: Value.int (q 4) :: Value.int (q 5) :: Value.int (q 6) :: Value.int (q 7) :: Value.ref (a 8) :: Value.ref (a 9) :: Value.ref (a 10) :: Value.ref (a 11) :: Value.ref (a 12) :: Value.ref (a 13) :: Value.int (q 14) :: Value.long v :: Value.long w :: Value.ref (a 17) :: Value.ref (a 18) :: Value.ref (a 19) :: Value.ref (a 20) :: Value.ref (a 21) :: Value.ref (a 22) :: Value.ref (a 23) :: Value.int (q 24) :: Value.ref (a 25) :: Value.int (q 26) :: Value.ref (a 27) :: Value.int (q 28) :: Value.int (q 29) :: Value.int (q 30) :: Value.int (q 31) :: Value.int (q 32) :: Value.int (q 33) :: Value.ref (a 34) :: Value.ref (a 35) :: Value.ref (a 36) :: Value.ref (a 37) :: Value.ref (a 38) :: Value.ref (a 39) :: Value.ref (a 40) :: Value.int (q 41) :: Value.ref (a 42) :: Value.int (q 43) :: Value.int (q 44) :: [])))] sz) (va_Qv (fun (u : (Int32) × (Int64) × (Int64)) => (isB u.1) ∧ (1 ≤ u.2.2.toInt) ∧ ((u.1 : Int32).toInt = 0 ↔ (((q 14) : Int32).toInt = 0 ∧ fitM x1 x3 ∧ fitM x2 x4)) ∧ ((u.1 : Int32).toInt = 0 → ((u.2.1, u.2.2) : Int64 × Int64) = redW (x1 * x3) (x2 * x4))) (bW D (va_A [(h0, .inr (10, (Value.int (q 0) :: Value.int (q 1) :: Value.int (q 2) :: Value.int (q 3) :: Value.int (q 4) :: Value.int (q 5) :: Value.int (q 6) :: Value.int (q 7) :: Value.ref (a 8) :: Value.ref (a 9) :: Value.ref (a 10) :: Value.ref (a 11) :: Value.ref (a 12) :: Value.ref (a 13) :: Value.int (q 14) :: Value.long v :: Value.long w :: Value.ref (a 17) :: Value.ref (a 18) :: Value.ref (a 19) :: Value.ref (a 20) :: Value.ref (a 21) :: Value.ref (a 22) :: Value.ref (a 23) :: Value.int (q 24) :: Value.ref (a 25) :: Value.int (q 26) :: Value.ref (a 27) :: Value.int (q 28) :: Value.int (q 29) :: Value.int (q 30) :: Value.int (q 31) :: Value.int (q 32) :: Value.int (q 33) :: Value.ref (a 34) :: Value.ref (a 35) :: Value.ref (a 36) :: Value.ref (a 37) :: Value.ref (a 38) :: Value.ref (a 39) :: Value.ref (a 40) :: Value.int (q 41) :: Value.ref (a 42) :: Value.int (q 43) :: Value.int (q 44) :: [])))] sz) (fun (u : (Int32) × (Int64) × (Int64)) => [(h0, .inr (10, (Value.int (q 0) :: Value.int (q 1) :: Value.int (q 2) :: Value.int (q 3) :: Value.int (q 4) :: Value.int (q 5) :: Value.int (q 6) :: Value.int (q 7) :: Value.ref (a 8) :: Value.ref (a 9) :: Value.ref (a 10) :: Value.ref (a 11) :: Value.ref (a 12) :: Value.ref (a 13) :: Value.int u.1 :: Value.long u.2.1 :: Value.long u.2.2 :: Value.ref (a 17) :: Value.ref (a 18) :: Value.ref (a 19) :: Value.ref (a 20) :: Value.ref (a 21) :: Value.ref (a 22) :: Value.ref (a 23) :: Value.int (q 24) :: Value.ref (a 25) :: Value.int (q 26) :: Value.ref (a 27) :: Value.int (q 28) :: Value.int (q 29) :: Value.int (q 30) :: Value.int (q 31) :: Value.int (q 32) :: Value.int (q 33) :: Value.ref (a 34) :: Value.ref (a 35) :: Value.ref (a 36) :: Value.ref (a 37) :: Value.ref (a 38) :: Value.ref (a 39) :: Value.ref (a 40) :: Value.int (q 41) :: Value.ref (a 42) :: Value.int (q 43) :: Value.int (q 44) :: [])))])) (va_A [(h0, .inr (10, (Value.int (q 0) :: Value.int (q 1) :: Value.int (q 2) :: Value.int (q 3) :: Value.int (q 4) :: Value.int (q 5) :: Value.int (q 6) :: Value.int (q 7) :: Value.ref (a 8) :: Value.ref (a 9) :: Value.ref (a 10) :: Value.ref (a 11) :: Value.ref (a 12) :: Value.ref (a 13) :: Value.int (q 14) :: Value.long v :: Value.long w :: Value.ref (a 17) :: Value.ref (a 18) :: Value.ref (a 19) :: Value.ref (a 20) :: Value.ref (a 21) :: Value.ref (a 22) :: Value.ref (a 23) :: Value.int (q 24) :: Value.ref (a 25) :: Value.int (q 26) :: Value.ref (a 27) :: Value.int (q 28) :: Value.int (q 29) :: Value.int (q 30) :: Value.int (q 31) :: Value.int (q 32) :: Value.int (q 33) :: Value.ref (a 34) :: Value.ref (a 35) :: Value.ref (a 36) :: Value.ref (a 37) :: Value.ref (a 38) :: Value.ref (a 39) :: Value.ref (a 40) :: Value.int (q 41) :: Value.ref (a 42) :: Value.int (q 43) :: Value.int (q 44) :: [])))] sz)) 0 0 (va_A [(h0, .inr (10, (Value.int (q 0) :: Value.int (q 1) :: Value.int (q 2) :: Value.int (q 3) :: Value.int (q 4) :: Value.int (q 5) :: Value.int (q 6) :: Value.int (q 7) :: Value.ref (a 8) :: Value.ref (a 9) :: Value.ref (a 10) :: Value.ref (a 11) :: Value.ref (a 12) :: Value.ref (a 13) :: Value.int (q 14) :: Value.long v :: Value.long w :: Value.ref (a 17) :: Value.ref (a 18) :: Value.ref (a 19) :: Value.ref (a 20) :: Value.ref (a 21) :: Value.ref (a 22) :: Value.ref (a 23) :: Value.int (q 24) :: Value.ref (a 25) :: Value.int (q 26) :: Value.ref (a 27) :: Value.int (q 28) :: Value.int (q 29) :: Value.int (q 30) :: Value.int (q 31) :: Value.int (q 32) :: Value.int (q 33) :: Value.ref (a 34) :: Value.ref (a 35) :: Value.ref (a 36) :: Value.ref (a 37) :: Value.ref (a 38) :: Value.ref (a 39) :: Value.ref (a 40) :: Value.int (q 41) :: Value.ref (a 42) :: Value.int (q 43) :: Value.int (q 44) :: [])))] sz) := by
  refine Met.ofW (cc := cX13_multiplies) (maxL := 13) (ret := none) (by decide +kernel) rfl ?_
  intro p e s m args below meth c s₁ B hml hv
  obtain ⟨rfl, hsz, hP, hE, hD0⟩ := hv
  have hx := B.exec
  have hb := B.bytes
  have hr := B.returns
  have hts := atoms_spec (ws := wsX13_multiplies) B.pre
  have hown : s.vm.findClass RX13 = some m.cls := findClass_of_methodNamed B.named
  have hlocks := B.notSynchronized
  subst hsz
  have hD := hD0.self (sz := s.heap.size)
  generalize hAe : va_A [(h0, .inr (10, (Value.int (q 0) :: Value.int (q 1) :: Value.int (q 2) :: Value.int (q 3) :: Value.int (q 4) :: Value.int (q 5) :: Value.int (q 6) :: Value.int (q 7) :: Value.ref (a 8) :: Value.ref (a 9) :: Value.ref (a 10) :: Value.ref (a 11) :: Value.ref (a 12) :: Value.ref (a 13) :: Value.int (q 14) :: Value.long v :: Value.long w :: Value.ref (a 17) :: Value.ref (a 18) :: Value.ref (a 19) :: Value.ref (a 20) :: Value.ref (a 21) :: Value.ref (a 22) :: Value.ref (a 23) :: Value.int (q 24) :: Value.ref (a 25) :: Value.int (q 26) :: Value.ref (a 27) :: Value.int (q 28) :: Value.int (q 29) :: Value.int (q 30) :: Value.int (q 31) :: Value.int (q 32) :: Value.int (q 33) :: Value.ref (a 34) :: Value.ref (a 35) :: Value.ref (a 36) :: Value.ref (a 37) :: Value.ref (a 38) :: Value.ref (a 39) :: Value.ref (a 40) :: Value.int (q 41) :: Value.ref (a 42) :: Value.int (q 43) :: Value.int (q 44) :: [])))] s.heap.size = A at hD ⊢
  have hA : ∀ q : Nat, s.heap.size ≤ q → A q := fun q h => by rw [← hAe]; exact Or.inr h
  have hS : va_S A s.heap s.heap [] := va_S.rf
  have hP : va_P D vwCl [(h0, .inr (10, (Value.int (q 0) :: Value.int (q 1) :: Value.int (q 2) :: Value.int (q 3) :: Value.int (q 4) :: Value.int (q 5) :: Value.int (q 6) :: Value.int (q 7) :: Value.ref (a 8) :: Value.ref (a 9) :: Value.ref (a 10) :: Value.ref (a 11) :: Value.ref (a 12) :: Value.ref (a 13) :: Value.int (q 14) :: Value.long v :: Value.long w :: Value.ref (a 17) :: Value.ref (a 18) :: Value.ref (a 19) :: Value.ref (a 20) :: Value.ref (a 21) :: Value.ref (a 22) :: Value.ref (a 23) :: Value.int (q 24) :: Value.ref (a 25) :: Value.int (q 26) :: Value.ref (a 27) :: Value.int (q 28) :: Value.int (q 29) :: Value.int (q 30) :: Value.int (q 31) :: Value.int (q 32) :: Value.int (q 33) :: Value.ref (a 34) :: Value.ref (a 35) :: Value.ref (a 36) :: Value.ref (a 37) :: Value.ref (a 38) :: Value.ref (a 39) :: Value.ref (a 40) :: Value.int (q 41) :: Value.ref (a 42) :: Value.int (q 43) :: Value.int (q 44) :: [])))] s.heap := hP
  have hl := lv_entry ([.ref h0, .long x1, .long x2, .long x3, .long x4]) (n := 13) (Nat.le_of_ble_eq_true rfl)
  rw [lg_entry_eq]
  generalize (lg_sl ([.ref h0, .long x1, .long x2, .long x3, .long x4]) ++ List.replicate (13 - (lg_sl ([.ref h0, .long x1, .long x2, .long x3, .long x4])).length) Slot.unset).toArray = ls at hl ⊢
  have hl : lv_has ls 13 [(0, .ref h0), (1, .long x1), (3, .long x2), (5, .long x3), (7, .long x4)] := hl
  clear hD0
  refine lv_aload_n hx hb dX13_multiplies_0 rfl (lv_at hl 0 rfl) ?_
  refine lv_lload_n hx hb dX13_multiplies_1 rfl (lv_at hl 1 rfl) ?_
  refine lv_lload hx hb dX13_multiplies_2 (lv_at hl 3 rfl) ?_
  have hFc := va_free (wc := [(h0, .inr (10, (Value.int (q 0) :: Value.int (q 1) :: Value.int (q 2) :: Value.int (q 3) :: Value.int (q 4) :: Value.int (q 5) :: Value.int (q 6) :: Value.int (q 7) :: Value.ref (a 8) :: Value.ref (a 9) :: Value.ref (a 10) :: Value.ref (a 11) :: Value.ref (a 12) :: Value.ref (a 13) :: Value.int (q 14) :: Value.long v :: Value.long w :: Value.ref (a 17) :: Value.ref (a 18) :: Value.ref (a 19) :: Value.ref (a 20) :: Value.ref (a 21) :: Value.ref (a 22) :: Value.ref (a 23) :: Value.int (q 24) :: Value.ref (a 25) :: Value.int (q 26) :: Value.ref (a 27) :: Value.int (q 28) :: Value.int (q 29) :: Value.int (q 30) :: Value.int (q 31) :: Value.int (q 32) :: Value.int (q 33) :: Value.ref (a 34) :: Value.ref (a 35) :: Value.ref (a 36) :: Value.ref (a 37) :: Value.ref (a 38) :: Value.ref (a 39) :: Value.ref (a 40) :: Value.int (q 41) :: Value.ref (a 42) :: Value.int (q 43) :: Value.int (q 44) :: [])))]) hD hS hA [0] rfl
  refine va_calll (va_runV (As := [.long x1, .long x3]) (rest := []) ⟨hx, hb, hml, hown, hts⟩ (c_X13_times l D T _ h0 q v w a x1 x3 (show isB (q 14) from hB)) (cwV 2 hts gX13_multiplies_X13_times rfl rfl rfl hv_X13_times ⟨Nat.le_of_ble_eq_true rfl, Nat.le_of_ble_eq_true rfl⟩) (pW_V (q := (RX13, TX13, 45)) (ci := 10) (q0 := 0) hP hE hD rfl rfl [0] (by decide +kernel) rfl rfl) rfl rfl hl.1 rfl (lv_room (Nat.le_of_ble_eq_true rfl)) dX13_multiplies_4 ⟨Nat.le_of_ble_eq_true rfl, Nat.le_of_ble_eq_true rfl⟩) hS (fun q _ h => hFc q h) hFc (fun r_1 u_2 t H1 locs ht hvm hr_1 hB hz1 hk1 hS => ?_)
  obtain ⟨hi0_r_1, hi1_r_1, hi2_r_1⟩ := hr_1
  have hB14_r_1 : isB u_2 := hi0_r_1
  have hj1_r_1 : (u_2 : Int32).toInt = 0 ↔ (((q 14) : Int32).toInt = 0 ∧ fitM x1 x3) := hi1_r_1
  have hj2_r_1 : r_1 = x1 * x3 := hi2_r_1
  obtain ⟨hP1, hD1⟩ := hB
  rw [ht] at hP1
  obtain ⟨hP, hD⟩ := va_repl [(h0, .inr (10, (Value.int (q 0) :: Value.int (q 1) :: Value.int (q 2) :: Value.int (q 3) :: Value.int (q 4) :: Value.int (q 5) :: Value.int (q 6) :: Value.int (q 7) :: Value.ref (a 8) :: Value.ref (a 9) :: Value.ref (a 10) :: Value.ref (a 11) :: Value.ref (a 12) :: Value.ref (a 13) :: Value.int u_2 :: Value.long v :: Value.long w :: Value.ref (a 17) :: Value.ref (a 18) :: Value.ref (a 19) :: Value.ref (a 20) :: Value.ref (a 21) :: Value.ref (a 22) :: Value.ref (a 23) :: Value.int (q 24) :: Value.ref (a 25) :: Value.int (q 26) :: Value.ref (a 27) :: Value.int (q 28) :: Value.int (q 29) :: Value.int (q 30) :: Value.int (q 31) :: Value.int (q 32) :: Value.int (q 33) :: Value.ref (a 34) :: Value.ref (a 35) :: Value.ref (a 36) :: Value.ref (a 37) :: Value.ref (a 38) :: Value.ref (a 39) :: Value.ref (a 40) :: Value.int (q 41) :: Value.ref (a 42) :: Value.int (q 43) :: Value.int (q 44) :: [])))] hP hD [0] [0] rfl (by decide +kernel) rfl rfl rfl hk1 hP1
  clear hP1 hD1 hFc
  generalize H1 = H at hP hS ⊢
  refine lv_lstore (lv' := [(9, .long r_1), (0, .ref h0), (1, .long x1), (3, .long x2), (5, .long x3), (7, .long x4)]) hx hb dX13_multiplies_7 hl (by decide +kernel) rfl (fun ls hl => ?_)
  refine lv_aload_n hx hb dX13_multiplies_9 rfl (lv_at hl 1 rfl) ?_
  refine lv_lload_n hx hb dX13_multiplies_10 rfl (lv_at hl 3 rfl) ?_
  refine lv_lload hx hb dX13_multiplies_11 (lv_at hl 5 rfl) ?_
  have hFc := va_free (wc := [(h0, .inr (10, (Value.int (q 0) :: Value.int (q 1) :: Value.int (q 2) :: Value.int (q 3) :: Value.int (q 4) :: Value.int (q 5) :: Value.int (q 6) :: Value.int (q 7) :: Value.ref (a 8) :: Value.ref (a 9) :: Value.ref (a 10) :: Value.ref (a 11) :: Value.ref (a 12) :: Value.ref (a 13) :: Value.int u_2 :: Value.long v :: Value.long w :: Value.ref (a 17) :: Value.ref (a 18) :: Value.ref (a 19) :: Value.ref (a 20) :: Value.ref (a 21) :: Value.ref (a 22) :: Value.ref (a 23) :: Value.int (q 24) :: Value.ref (a 25) :: Value.int (q 26) :: Value.ref (a 27) :: Value.int (q 28) :: Value.int (q 29) :: Value.int (q 30) :: Value.int (q 31) :: Value.int (q 32) :: Value.int (q 33) :: Value.ref (a 34) :: Value.ref (a 35) :: Value.ref (a 36) :: Value.ref (a 37) :: Value.ref (a 38) :: Value.ref (a 39) :: Value.ref (a 40) :: Value.int (q 41) :: Value.ref (a 42) :: Value.int (q 43) :: Value.int (q 44) :: [])))]) hD hS hA [0] rfl
  refine va_calll (va_runV (As := [.long x2, .long x4]) (rest := []) ⟨hx, hb, hml, hown, hts⟩ (c_X13_times l D T _ h0 (fun k => cond (Nat.beq k 14) u_2 (q k)) v w a x2 x4 (show isB u_2 from hB14_r_1)) (cwV 2 hts gX13_multiplies_X13_times rfl rfl rfl hv_X13_times ⟨Nat.le_of_ble_eq_true rfl, Nat.le_of_ble_eq_true rfl⟩) (pW_V (q := (RX13, TX13, 45)) (ci := 10) (q0 := 0) hP hE hD rfl rfl [0] (by decide +kernel) rfl rfl) rfl rfl hl.1 rfl (lv_room (Nat.le_of_ble_eq_true rfl)) dX13_multiplies_13 ⟨Nat.le_of_ble_eq_true rfl, Nat.le_of_ble_eq_true rfl⟩) hS (fun q _ h => hFc q h) hFc (fun r_3 u_4 t H1 locs ht hvm hr_3 hB hz1 hk1 hS => ?_)
  obtain ⟨hi0_r_3, hi1_r_3, hi2_r_3⟩ := hr_3
  have hB14_r_3 : isB u_4 := hi0_r_3
  have hj1_r_3 : (u_4 : Int32).toInt = 0 ↔ ((u_2 : Int32).toInt = 0 ∧ fitM x2 x4) := hi1_r_3
  have hj2_r_3 : r_3 = x2 * x4 := hi2_r_3
  obtain ⟨hP1, hD1⟩ := hB
  rw [ht] at hP1
  obtain ⟨hP, hD⟩ := va_repl [(h0, .inr (10, (Value.int (q 0) :: Value.int (q 1) :: Value.int (q 2) :: Value.int (q 3) :: Value.int (q 4) :: Value.int (q 5) :: Value.int (q 6) :: Value.int (q 7) :: Value.ref (a 8) :: Value.ref (a 9) :: Value.ref (a 10) :: Value.ref (a 11) :: Value.ref (a 12) :: Value.ref (a 13) :: Value.int u_4 :: Value.long v :: Value.long w :: Value.ref (a 17) :: Value.ref (a 18) :: Value.ref (a 19) :: Value.ref (a 20) :: Value.ref (a 21) :: Value.ref (a 22) :: Value.ref (a 23) :: Value.int (q 24) :: Value.ref (a 25) :: Value.int (q 26) :: Value.ref (a 27) :: Value.int (q 28) :: Value.int (q 29) :: Value.int (q 30) :: Value.int (q 31) :: Value.int (q 32) :: Value.int (q 33) :: Value.ref (a 34) :: Value.ref (a 35) :: Value.ref (a 36) :: Value.ref (a 37) :: Value.ref (a 38) :: Value.ref (a 39) :: Value.ref (a 40) :: Value.int (q 41) :: Value.ref (a 42) :: Value.int (q 43) :: Value.int (q 44) :: [])))] hP hD [0] [0] rfl (by decide +kernel) rfl rfl rfl hk1 hP1
  clear hP1 hD1 hFc
  generalize H1 = H at hP hS ⊢
  refine lv_lstore (lv' := [(11, .long r_3), (9, .long r_1), (0, .ref h0), (1, .long x1), (3, .long x2), (5, .long x3), (7, .long x4)]) hx hb dX13_multiplies_16 hl (by decide +kernel) rfl (fun ls hl => ?_)
  refine lv_aload_n hx hb dX13_multiplies_18 rfl (lv_at hl 2 rfl) ?_
  refine lv_lload hx hb dX13_multiplies_19 (lv_at hl 1 rfl) ?_
  refine lv_lload hx hb dX13_multiplies_21 (lv_at hl 0 rfl) ?_
  have hFc := va_free (wc := [(h0, .inr (10, (Value.int (q 0) :: Value.int (q 1) :: Value.int (q 2) :: Value.int (q 3) :: Value.int (q 4) :: Value.int (q 5) :: Value.int (q 6) :: Value.int (q 7) :: Value.ref (a 8) :: Value.ref (a 9) :: Value.ref (a 10) :: Value.ref (a 11) :: Value.ref (a 12) :: Value.ref (a 13) :: Value.int u_4 :: Value.long v :: Value.long w :: Value.ref (a 17) :: Value.ref (a 18) :: Value.ref (a 19) :: Value.ref (a 20) :: Value.ref (a 21) :: Value.ref (a 22) :: Value.ref (a 23) :: Value.int (q 24) :: Value.ref (a 25) :: Value.int (q 26) :: Value.ref (a 27) :: Value.int (q 28) :: Value.int (q 29) :: Value.int (q 30) :: Value.int (q 31) :: Value.int (q 32) :: Value.int (q 33) :: Value.ref (a 34) :: Value.ref (a 35) :: Value.ref (a 36) :: Value.ref (a 37) :: Value.ref (a 38) :: Value.ref (a 39) :: Value.ref (a 40) :: Value.int (q 41) :: Value.ref (a 42) :: Value.int (q 43) :: Value.int (q 44) :: [])))]) hD hS hA [0] rfl
  refine va_callv (va_runV (As := [.long r_1, .long r_3]) (rest := []) ⟨hx, hb, hml, hown, hts⟩ (c_X13_becomes l D T _ h0 (fun k => cond (Nat.beq k 14) u_4 (q k)) v w a r_1 r_3 (show (u_4 : Int32).toInt = 0 → 1 ≤ r_3.toInt from (fun h9 => den_pos hx2 hx4 (hj1_r_3.1 h9).2 hj2_r_3))) (cwV 2 hts gX13_multiplies_X13_becomes rfl rfl rfl hv_X13_becomes ⟨Nat.le_of_ble_eq_true rfl, Nat.le_of_ble_eq_true rfl⟩) (pW_V (q := (RX13, TX13, 45)) (ci := 10) (q0 := 0) hP hE hD rfl rfl [0] (by decide +kernel) rfl rfl) rfl rfl hl.1 rfl (lv_room (Nat.le_of_ble_eq_true rfl)) dX13_multiplies_23 ⟨Nat.le_of_ble_eq_true rfl, Nat.le_of_ble_eq_true rfl⟩) hS (fun q _ h => hFc q h) hFc (fun u_6 t H1 locs ht hvm hr_5 hB hz1 hk1 hS => ?_)
  obtain ⟨l_7, l_8⟩ := u_6
  obtain ⟨hi0_r_5, hi1_r_5⟩ := hr_5
  have hj0_r_5 : (u_4 : Int32).toInt = 0 ∨ 1 ≤ w.toInt → 1 ≤ l_8.toInt := hi0_r_5
  have hj1_r_5 : (u_4 : Int32).toInt = 0 → ((l_7, l_8) : Int64 × Int64) = redW r_1 r_3 := hi1_r_5
  obtain ⟨hP1, hD1⟩ := hB
  rw [ht] at hP1
  obtain ⟨hP, hD⟩ := va_repl [(h0, .inr (10, (Value.int (q 0) :: Value.int (q 1) :: Value.int (q 2) :: Value.int (q 3) :: Value.int (q 4) :: Value.int (q 5) :: Value.int (q 6) :: Value.int (q 7) :: Value.ref (a 8) :: Value.ref (a 9) :: Value.ref (a 10) :: Value.ref (a 11) :: Value.ref (a 12) :: Value.ref (a 13) :: Value.int u_4 :: Value.long l_7 :: Value.long l_8 :: Value.ref (a 17) :: Value.ref (a 18) :: Value.ref (a 19) :: Value.ref (a 20) :: Value.ref (a 21) :: Value.ref (a 22) :: Value.ref (a 23) :: Value.int (q 24) :: Value.ref (a 25) :: Value.int (q 26) :: Value.ref (a 27) :: Value.int (q 28) :: Value.int (q 29) :: Value.int (q 30) :: Value.int (q 31) :: Value.int (q 32) :: Value.int (q 33) :: Value.ref (a 34) :: Value.ref (a 35) :: Value.ref (a 36) :: Value.ref (a 37) :: Value.ref (a 38) :: Value.ref (a 39) :: Value.ref (a 40) :: Value.int (q 41) :: Value.ref (a 42) :: Value.int (q 43) :: Value.int (q 44) :: [])))] hP hD [0] [0] rfl (by decide +kernel) rfl rfl rfl hk1 hP1
  clear hP1 hD1 hFc
  generalize H1 = H at hP hS ⊢
  exact W.vret hx hb hr (fun t ht hW => ⟨⟨(u_4, l_7, l_8), rfl, ⟨(show isB u_4 from hB14_r_3), (show 1 ≤ l_8.toInt from (by first | omega | (subst_vars; omega))), (show (u_4 : Int32).toInt = 0 ↔ (((q 14) : Int32).toInt = 0 ∧ fitM x1 x3 ∧ fitM x2 x4) from ⟨(fun h9 => by have h8 := hj1_r_3.1 h9; have h7 := hj1_r_1.1 h8.1; exact ⟨h7.1, h7.2, h8.2⟩), (fun h9 => hj1_r_3.2 ⟨hj1_r_1.2 ⟨h9.1, h9.2.1⟩, h9.2.2⟩)⟩), (show (u_4 : Int32).toInt = 0 → ((l_7, l_8) : Int64 × Int64) = redW (x1 * x3) (x2 * x4) from (fun h9 => by rw [← hj2_r_1, ← hj2_r_3]; exact hj1_r_5 h9))⟩, by rw [ht]; exact hP.sub [0] rfl, hD.sub [0] (by decide +kernel) rfl⟩, hS.F ht⟩) hS.2.2 dX13_multiplies_26
theorem dX13_adds_0 : decode cX13_adds 0 = .ok (.aload_n 0, 1) := by decide +kernel
theorem dX13_adds_1 : decode cX13_adds 1 = .ok (.lload_n 1, 1) := by decide +kernel
theorem dX13_adds_10 : decode cX13_adds 10 = .ok (.lload 5, 2) := by decide +kernel
theorem dX13_adds_12 : decode cX13_adds 12 = .ok (.lload_n 3, 1) := by decide +kernel
theorem dX13_adds_13 : decode cX13_adds 13 = .ok (.invokevirtual 152, 3) := by decide +kernel
theorem dX13_adds_16 : decode cX13_adds 16 = .ok (.lstore 11, 2) := by decide +kernel
theorem dX13_adds_18 : decode cX13_adds 18 = .ok (.aload_n 0, 1) := by decide +kernel
theorem dX13_adds_19 : decode cX13_adds 19 = .ok (.lload_n 3, 1) := by decide +kernel
theorem dX13_adds_2 : decode cX13_adds 2 = .ok (.lload 7, 2) := by decide +kernel
theorem dX13_adds_20 : decode cX13_adds 20 = .ok (.lload 7, 2) := by decide +kernel
theorem dX13_adds_22 : decode cX13_adds 22 = .ok (.invokevirtual 152, 3) := by decide +kernel
theorem dX13_adds_25 : decode cX13_adds 25 = .ok (.lstore 13, 2) := by decide +kernel
theorem dX13_adds_27 : decode cX13_adds 27 = .ok (.aload_n 0, 1) := by decide +kernel
theorem dX13_adds_28 : decode cX13_adds 28 = .ok (.getfield 131, 3) := by decide +kernel
theorem dX13_adds_31 : decode cX13_adds 31 = .ok (.ifCond .eq 7, 3) := by decide +kernel
theorem dX13_adds_34 : decode cX13_adds 34 = .ok (.lconst 0, 1) := by decide +kernel
theorem dX13_adds_35 : decode cX13_adds 35 = .ok (.goto 11, 3) := by decide +kernel
theorem dX13_adds_38 : decode cX13_adds 38 = .ok (.aload_n 0, 1) := by decide +kernel
theorem dX13_adds_39 : decode cX13_adds 39 = .ok (.lload 9, 2) := by decide +kernel
theorem dX13_adds_4 : decode cX13_adds 4 = .ok (.invokevirtual 152, 3) := by decide +kernel
theorem dX13_adds_41 : decode cX13_adds 41 = .ok (.lload 11, 2) := by decide +kernel
theorem dX13_adds_43 : decode cX13_adds 43 = .ok (.invokevirtual 159, 3) := by decide +kernel
theorem dX13_adds_46 : decode cX13_adds 46 = .ok (.lstore 15, 2) := by decide +kernel
theorem dX13_adds_48 : decode cX13_adds 48 = .ok (.aload_n 0, 1) := by decide +kernel
theorem dX13_adds_49 : decode cX13_adds 49 = .ok (.lload 15, 2) := by decide +kernel
theorem dX13_adds_51 : decode cX13_adds 51 = .ok (.lload 13, 2) := by decide +kernel
theorem dX13_adds_53 : decode cX13_adds 53 = .ok (.invokevirtual 155, 3) := by decide +kernel
theorem dX13_adds_56 : decode cX13_adds 56 = .ok (.return_, 1) := by decide +kernel
theorem dX13_adds_7 : decode cX13_adds 7 = .ok (.lstore 9, 2) := by decide +kernel
theorem dX13_adds_9 : decode cX13_adds 9 = .ok (.aload_n 0, 1) := by decide +kernel
set_option maxRecDepth 20000 in
theorem ggX13_adds_X13_becomes : GoodIn wsX13_adds wsX13_becomes := goodIn_r _ [16, 1, 17, 18, 19, 20, 5, 21, 22, 23, 24, 25, 26, 27, 28, 29, 30, 31, 32, 33, 34, 35, 36, 37, 38, 39, 40, 41, 42, 43, 44, 45, 46, 47, 48, 49, 50, 51, 52, 53, 54, 55, 56, 57, 58, 59, 60, 61, 62, 63, 64, 65, 66] rfl (by decide +kernel)
set_option maxRecDepth 20000 in
theorem ggX13_adds_X13_plus : GoodIn wsX13_adds wsX13_plus := goodIn_r _ [12, 1, 22, 23, 24, 25, 26, 27, 28, 29, 30, 31, 32, 33, 34, 35, 36, 37, 38, 39, 40, 41, 42, 43, 44, 45, 46, 47, 48, 49, 50, 51, 52, 53, 54, 55, 56, 57, 58, 59, 60, 61, 62, 63, 64, 65, 66] rfl (by decide +kernel)
set_option maxRecDepth 20000 in
theorem ggX13_adds_X13_times : GoodIn wsX13_adds wsX13_times := goodIn_r _ [6, 1, 7, 8, 22, 23, 24, 25, 26, 27, 28, 29, 30, 31, 32, 33, 34, 35, 36, 37, 38, 39, 40, 41, 42, 43, 44, 45, 46, 47, 48, 49, 50, 51, 52, 53, 54, 55, 56, 57, 58, 59, 60, 61, 62, 63, 64, 65, 66] rfl (by decide +kernel)
set_option maxRecDepth 20000 in
theorem gX13_adds_X13_becomes : GoodIn wsX13_adds (wsV RX13 155 RX13 yX13_becomes wsX13_becomes) := goodIn_app (goodIn_r _ [13, 14, 15, 5] rfl (by decide +kernel)) ggX13_adds_X13_becomes
set_option maxRecDepth 20000 in
theorem gX13_adds_X13_plus : GoodIn wsX13_adds (wsV RX13 159 RX13 yX13_plus wsX13_plus) := goodIn_app (goodIn_r _ [9, 10, 11, 5] rfl (by decide +kernel)) ggX13_adds_X13_plus
set_option maxRecDepth 20000 in
theorem gX13_adds_X13_times : GoodIn wsX13_adds (wsV RX13 152 RX13 yX13_times wsX13_times) := goodIn_app (goodIn_r _ [2, 3, 4, 5] rfl (by decide +kernel)) ggX13_adds_X13_times
theorem hv_X13_plus : yX13_plus.cls = RX13 ∧ yX13_plus.cls ≠ "java/lang/invoke/MethodHandle" ∧ yX13_plus.cls ≠ "java/lang/invoke/VarHandle" ∧ (parseMethodDescriptor yX13_plus.desc).map (fun d => d.parameters.length) = some 2 := by decide +kernel
set_option maxRecDepth 20000 in
theorem in_X13_adds_X13 : ∀ w ∈ wsX130, w ∈ wsX13_adds := sub_r [22, 23, 24, 25, 26, 27, 28, 29, 30, 31, 32, 33, 34, 35, 36, 37, 38, 39, 40, 41, 42, 43, 44, 45, 46, 47, 48, 49, 50, 51, 52, 53, 54, 55, 56, 57, 58, 59, 60, 61, 62, 63, 64, 65, 66] rfl
set_option maxHeartbeats 4000000 in
set_option maxRecDepth 100000 in
theorem c_X13_adds (l : Launch) (D : va_G) (T : Nat → ClassId) (sz : Nat) (h0 : Nat) (q : Nat → Int32) (v : Int64) (w : Int64) (a : Nat → Nat) (x1 : Int64) (x2 : Int64) (x3 : Int64) (x4 : Int64) (hB : isB (q 14)) (hx2 : 1 ≤ x2.toInt) (hx4 : 1 ≤ x4.toInt) (hw : 1 ≤ w.toInt) : Met l yX13_adds wsX13_adds ({ frames := 2, cells := 0, slots := 0, locals := 55 }) (pW [.ref h0, .long x1, .long x2, .long x3, .long x4] D T [(h0, .inr (10, (Value.int (q 0) :: Value.int (q 1) :: Value.int (q 2) :: Value.int (q 3) :: Value.int (q 4) :: Value.int (q 5) :: Value.int (q 6) :: Value.int (q 7) :: Value.ref (a 8) :: Value.ref (a 9) :: Value.ref (a 10) :: Value.ref (a 11) :: Value.ref (a 12) :: Value.ref (a 13) :: Value.int (q 14) :: Value.long v :: Value.long w :: Value.ref (a 17) :: Value.ref (a 18) :: Value.ref (a 19) :: Value.ref (a 20) :: Value.ref (a 21) :: Value.ref (a 22) :: Value.ref (a 23) :: Value.int (q 24) :: Value.ref (a 25) :: Value.int (q 26) :: Value.ref (a 27) :: Value.int (q 28) :: Value.int (q 29) :: Value.int (q 30) :: Value.int (q 31) :: Value.int (q 32) :: Value.int (q 33) :: Value.ref (a 34) :: Value.ref (a 35) :: Value.ref (a 36) :: Value.ref (a 37) :: Value.ref (a 38) :: Value.ref (a 39) :: Value.ref (a 40) :: Value.int (q 41) :: Value.ref (a 42) :: Value.int (q 43) :: Value.int (q 44) :: [])))] sz) (va_Qv (fun (u : (Int32) × (Int64) × (Int64)) => (isB u.1) ∧ (1 ≤ u.2.2.toInt) ∧ ((u.1 : Int32).toInt = 0 ↔ (((q 14) : Int32).toInt = 0 ∧ fitM x1 x4 ∧ fitM x3 x2 ∧ fitM x2 x4 ∧ fitA (x1 * x4) (x3 * x2))) ∧ ((u.1 : Int32).toInt = 0 → ((u.2.1, u.2.2) : Int64 × Int64) = redW ((x1 * x4) + (x3 * x2)) (x2 * x4))) (bW D (va_A [(h0, .inr (10, (Value.int (q 0) :: Value.int (q 1) :: Value.int (q 2) :: Value.int (q 3) :: Value.int (q 4) :: Value.int (q 5) :: Value.int (q 6) :: Value.int (q 7) :: Value.ref (a 8) :: Value.ref (a 9) :: Value.ref (a 10) :: Value.ref (a 11) :: Value.ref (a 12) :: Value.ref (a 13) :: Value.int (q 14) :: Value.long v :: Value.long w :: Value.ref (a 17) :: Value.ref (a 18) :: Value.ref (a 19) :: Value.ref (a 20) :: Value.ref (a 21) :: Value.ref (a 22) :: Value.ref (a 23) :: Value.int (q 24) :: Value.ref (a 25) :: Value.int (q 26) :: Value.ref (a 27) :: Value.int (q 28) :: Value.int (q 29) :: Value.int (q 30) :: Value.int (q 31) :: Value.int (q 32) :: Value.int (q 33) :: Value.ref (a 34) :: Value.ref (a 35) :: Value.ref (a 36) :: Value.ref (a 37) :: Value.ref (a 38) :: Value.ref (a 39) :: Value.ref (a 40) :: Value.int (q 41) :: Value.ref (a 42) :: Value.int (q 43) :: Value.int (q 44) :: [])))] sz) (fun (u : (Int32) × (Int64) × (Int64)) => [(h0, .inr (10, (Value.int (q 0) :: Value.int (q 1) :: Value.int (q 2) :: Value.int (q 3) :: Value.int (q 4) :: Value.int (q 5) :: Value.int (q 6) :: Value.int (q 7) :: Value.ref (a 8) :: Value.ref (a 9) :: Value.ref (a 10) :: Value.ref (a 11) :: Value.ref (a 12) :: Value.ref (a 13) :: Value.int u.1 :: Value.long u.2.1 :: Value.long u.2.2 :: Value.ref (a 17) :: Value.ref (a 18) :: Value.ref (a 19) :: Value.ref (a 20) :: Value.ref (a 21) :: Value.ref (a 22) :: Value.ref (a 23) :: Value.int (q 24) :: Value.ref (a 25) :: Value.int (q 26) :: Value.ref (a 27) :: Value.int (q 28) :: Value.int (q 29) :: Value.int (q 30) :: Value.int (q 31) :: Value.int (q 32) :: Value.int (q 33) :: Value.ref (a 34) :: Value.ref (a 35) :: Value.ref (a 36) :: Value.ref (a 37) :: Value.ref (a 38) :: Value.ref (a 39) :: Value.ref (a 40) :: Value.int (q 41) :: Value.ref (a 42) :: Value.int (q 43) :: Value.int (q 44) :: [])))])) (va_A [(h0, .inr (10, (Value.int (q 0) :: Value.int (q 1) :: Value.int (q 2) :: Value.int (q 3) :: Value.int (q 4) :: Value.int (q 5) :: Value.int (q 6) :: Value.int (q 7) :: Value.ref (a 8) :: Value.ref (a 9) :: Value.ref (a 10) :: Value.ref (a 11) :: Value.ref (a 12) :: Value.ref (a 13) :: Value.int (q 14) :: Value.long v :: Value.long w :: Value.ref (a 17) :: Value.ref (a 18) :: Value.ref (a 19) :: Value.ref (a 20) :: Value.ref (a 21) :: Value.ref (a 22) :: Value.ref (a 23) :: Value.int (q 24) :: Value.ref (a 25) :: Value.int (q 26) :: Value.ref (a 27) :: Value.int (q 28) :: Value.int (q 29) :: Value.int (q 30) :: Value.int (q 31) :: Value.int (q 32) :: Value.int (q 33) :: Value.ref (a 34) :: Value.ref (a 35) :: Value.ref (a 36) :: Value.ref (a 37) :: Value.ref (a 38) :: Value.ref (a 39) :: Value.ref (a 40) :: Value.int (q 41) :: Value.ref (a 42) :: Value.int (q 43) :: Value.int (q 44) :: [])))] sz)) 0 0 (va_A [(h0, .inr (10, (Value.int (q 0) :: Value.int (q 1) :: Value.int (q 2) :: Value.int (q 3) :: Value.int (q 4) :: Value.int (q 5) :: Value.int (q 6) :: Value.int (q 7) :: Value.ref (a 8) :: Value.ref (a 9) :: Value.ref (a 10) :: Value.ref (a 11) :: Value.ref (a 12) :: Value.ref (a 13) :: Value.int (q 14) :: Value.long v :: Value.long w :: Value.ref (a 17) :: Value.ref (a 18) :: Value.ref (a 19) :: Value.ref (a 20) :: Value.ref (a 21) :: Value.ref (a 22) :: Value.ref (a 23) :: Value.int (q 24) :: Value.ref (a 25) :: Value.int (q 26) :: Value.ref (a 27) :: Value.int (q 28) :: Value.int (q 29) :: Value.int (q 30) :: Value.int (q 31) :: Value.int (q 32) :: Value.int (q 33) :: Value.ref (a 34) :: Value.ref (a 35) :: Value.ref (a 36) :: Value.ref (a 37) :: Value.ref (a 38) :: Value.ref (a 39) :: Value.ref (a 40) :: Value.int (q 41) :: Value.ref (a 42) :: Value.int (q 43) :: Value.int (q 44) :: [])))] sz) := by
  refine Met.ofW (cc := cX13_adds) (maxL := 17) (ret := none) (by decide +kernel) rfl ?_
  intro p e s m args below meth c s₁ B hml hv
  obtain ⟨rfl, hsz, hP, hE, hD0⟩ := hv
  have hx := B.exec
  have hb := B.bytes
  have hr := B.returns
  have hts := atoms_spec (ws := wsX13_adds) B.pre
  have hown : s.vm.findClass RX13 = some m.cls := findClass_of_methodNamed B.named
  have hlocks := B.notSynchronized
  subst hsz
  have hD := hD0.self (sz := s.heap.size)
  generalize hAe : va_A [(h0, .inr (10, (Value.int (q 0) :: Value.int (q 1) :: Value.int (q 2) :: Value.int (q 3) :: Value.int (q 4) :: Value.int (q 5) :: Value.int (q 6) :: Value.int (q 7) :: Value.ref (a 8) :: Value.ref (a 9) :: Value.ref (a 10) :: Value.ref (a 11) :: Value.ref (a 12) :: Value.ref (a 13) :: Value.int (q 14) :: Value.long v :: Value.long w :: Value.ref (a 17) :: Value.ref (a 18) :: Value.ref (a 19) :: Value.ref (a 20) :: Value.ref (a 21) :: Value.ref (a 22) :: Value.ref (a 23) :: Value.int (q 24) :: Value.ref (a 25) :: Value.int (q 26) :: Value.ref (a 27) :: Value.int (q 28) :: Value.int (q 29) :: Value.int (q 30) :: Value.int (q 31) :: Value.int (q 32) :: Value.int (q 33) :: Value.ref (a 34) :: Value.ref (a 35) :: Value.ref (a 36) :: Value.ref (a 37) :: Value.ref (a 38) :: Value.ref (a 39) :: Value.ref (a 40) :: Value.int (q 41) :: Value.ref (a 42) :: Value.int (q 43) :: Value.int (q 44) :: [])))] s.heap.size = A at hD ⊢
  have hA : ∀ q : Nat, s.heap.size ≤ q → A q := fun q h => by rw [← hAe]; exact Or.inr h
  have hS : va_S A s.heap s.heap [] := va_S.rf
  have hP : va_P D vwCl [(h0, .inr (10, (Value.int (q 0) :: Value.int (q 1) :: Value.int (q 2) :: Value.int (q 3) :: Value.int (q 4) :: Value.int (q 5) :: Value.int (q 6) :: Value.int (q 7) :: Value.ref (a 8) :: Value.ref (a 9) :: Value.ref (a 10) :: Value.ref (a 11) :: Value.ref (a 12) :: Value.ref (a 13) :: Value.int (q 14) :: Value.long v :: Value.long w :: Value.ref (a 17) :: Value.ref (a 18) :: Value.ref (a 19) :: Value.ref (a 20) :: Value.ref (a 21) :: Value.ref (a 22) :: Value.ref (a 23) :: Value.int (q 24) :: Value.ref (a 25) :: Value.int (q 26) :: Value.ref (a 27) :: Value.int (q 28) :: Value.int (q 29) :: Value.int (q 30) :: Value.int (q 31) :: Value.int (q 32) :: Value.int (q 33) :: Value.ref (a 34) :: Value.ref (a 35) :: Value.ref (a 36) :: Value.ref (a 37) :: Value.ref (a 38) :: Value.ref (a 39) :: Value.ref (a 40) :: Value.int (q 41) :: Value.ref (a 42) :: Value.int (q 43) :: Value.int (q 44) :: [])))] s.heap := hP
  have hl := lv_entry ([.ref h0, .long x1, .long x2, .long x3, .long x4]) (n := 17) (Nat.le_of_ble_eq_true rfl)
  rw [lg_entry_eq]
  generalize (lg_sl ([.ref h0, .long x1, .long x2, .long x3, .long x4]) ++ List.replicate (17 - (lg_sl ([.ref h0, .long x1, .long x2, .long x3, .long x4])).length) Slot.unset).toArray = ls at hl ⊢
  have hl : lv_has ls 17 [(0, .ref h0), (1, .long x1), (3, .long x2), (5, .long x3), (7, .long x4)] := hl
  clear hD0
  refine lv_aload_n hx hb dX13_adds_0 rfl (lv_at hl 0 rfl) ?_
  refine lv_lload_n hx hb dX13_adds_1 rfl (lv_at hl 1 rfl) ?_
  refine lv_lload hx hb dX13_adds_2 (lv_at hl 4 rfl) ?_
  have hFc := va_free (wc := [(h0, .inr (10, (Value.int (q 0) :: Value.int (q 1) :: Value.int (q 2) :: Value.int (q 3) :: Value.int (q 4) :: Value.int (q 5) :: Value.int (q 6) :: Value.int (q 7) :: Value.ref (a 8) :: Value.ref (a 9) :: Value.ref (a 10) :: Value.ref (a 11) :: Value.ref (a 12) :: Value.ref (a 13) :: Value.int (q 14) :: Value.long v :: Value.long w :: Value.ref (a 17) :: Value.ref (a 18) :: Value.ref (a 19) :: Value.ref (a 20) :: Value.ref (a 21) :: Value.ref (a 22) :: Value.ref (a 23) :: Value.int (q 24) :: Value.ref (a 25) :: Value.int (q 26) :: Value.ref (a 27) :: Value.int (q 28) :: Value.int (q 29) :: Value.int (q 30) :: Value.int (q 31) :: Value.int (q 32) :: Value.int (q 33) :: Value.ref (a 34) :: Value.ref (a 35) :: Value.ref (a 36) :: Value.ref (a 37) :: Value.ref (a 38) :: Value.ref (a 39) :: Value.ref (a 40) :: Value.int (q 41) :: Value.ref (a 42) :: Value.int (q 43) :: Value.int (q 44) :: [])))]) hD hS hA [0] rfl
  refine va_calll (va_runV (As := [.long x1, .long x4]) (rest := []) ⟨hx, hb, hml, hown, hts⟩ (c_X13_times l D T _ h0 q v w a x1 x4 (show isB (q 14) from hB)) (cwV 2 hts gX13_adds_X13_times rfl rfl rfl hv_X13_times ⟨Nat.le_of_ble_eq_true rfl, Nat.le_of_ble_eq_true rfl⟩) (pW_V (q := (RX13, TX13, 45)) (ci := 10) (q0 := 0) hP hE hD rfl rfl [0] (by decide +kernel) rfl rfl) rfl rfl hl.1 rfl (lv_room (Nat.le_of_ble_eq_true rfl)) dX13_adds_4 ⟨Nat.le_of_ble_eq_true rfl, Nat.le_of_ble_eq_true rfl⟩) hS (fun q _ h => hFc q h) hFc (fun r_1 u_2 t H1 locs ht hvm hr_1 hB hz1 hk1 hS => ?_)
  obtain ⟨hi0_r_1, hi1_r_1, hi2_r_1⟩ := hr_1
  have hB14_r_1 : isB u_2 := hi0_r_1
  have hj1_r_1 : (u_2 : Int32).toInt = 0 ↔ (((q 14) : Int32).toInt = 0 ∧ fitM x1 x4) := hi1_r_1
  have hj2_r_1 : r_1 = x1 * x4 := hi2_r_1
  obtain ⟨hP1, hD1⟩ := hB
  rw [ht] at hP1
  obtain ⟨hP, hD⟩ := va_repl [(h0, .inr (10, (Value.int (q 0) :: Value.int (q 1) :: Value.int (q 2) :: Value.int (q 3) :: Value.int (q 4) :: Value.int (q 5) :: Value.int (q 6) :: Value.int (q 7) :: Value.ref (a 8) :: Value.ref (a 9) :: Value.ref (a 10) :: Value.ref (a 11) :: Value.ref (a 12) :: Value.ref (a 13) :: Value.int u_2 :: Value.long v :: Value.long w :: Value.ref (a 17) :: Value.ref (a 18) :: Value.ref (a 19) :: Value.ref (a 20) :: Value.ref (a 21) :: Value.ref (a 22) :: Value.ref (a 23) :: Value.int (q 24) :: Value.ref (a 25) :: Value.int (q 26) :: Value.ref (a 27) :: Value.int (q 28) :: Value.int (q 29) :: Value.int (q 30) :: Value.int (q 31) :: Value.int (q 32) :: Value.int (q 33) :: Value.ref (a 34) :: Value.ref (a 35) :: Value.ref (a 36) :: Value.ref (a 37) :: Value.ref (a 38) :: Value.ref (a 39) :: Value.ref (a 40) :: Value.int (q 41) :: Value.ref (a 42) :: Value.int (q 43) :: Value.int (q 44) :: [])))] hP hD [0] [0] rfl (by decide +kernel) rfl rfl rfl hk1 hP1
  clear hP1 hD1 hFc
  generalize H1 = H at hP hS ⊢
  refine lv_lstore (lv' := [(9, .long r_1), (0, .ref h0), (1, .long x1), (3, .long x2), (5, .long x3), (7, .long x4)]) hx hb dX13_adds_7 hl (by decide +kernel) rfl (fun ls hl => ?_)
  refine lv_aload_n hx hb dX13_adds_9 rfl (lv_at hl 1 rfl) ?_
  refine lv_lload hx hb dX13_adds_10 (lv_at hl 4 rfl) ?_
  refine lv_lload_n hx hb dX13_adds_12 rfl (lv_at hl 3 rfl) ?_
  have hFc := va_free (wc := [(h0, .inr (10, (Value.int (q 0) :: Value.int (q 1) :: Value.int (q 2) :: Value.int (q 3) :: Value.int (q 4) :: Value.int (q 5) :: Value.int (q 6) :: Value.int (q 7) :: Value.ref (a 8) :: Value.ref (a 9) :: Value.ref (a 10) :: Value.ref (a 11) :: Value.ref (a 12) :: Value.ref (a 13) :: Value.int u_2 :: Value.long v :: Value.long w :: Value.ref (a 17) :: Value.ref (a 18) :: Value.ref (a 19) :: Value.ref (a 20) :: Value.ref (a 21) :: Value.ref (a 22) :: Value.ref (a 23) :: Value.int (q 24) :: Value.ref (a 25) :: Value.int (q 26) :: Value.ref (a 27) :: Value.int (q 28) :: Value.int (q 29) :: Value.int (q 30) :: Value.int (q 31) :: Value.int (q 32) :: Value.int (q 33) :: Value.ref (a 34) :: Value.ref (a 35) :: Value.ref (a 36) :: Value.ref (a 37) :: Value.ref (a 38) :: Value.ref (a 39) :: Value.ref (a 40) :: Value.int (q 41) :: Value.ref (a 42) :: Value.int (q 43) :: Value.int (q 44) :: [])))]) hD hS hA [0] rfl
  refine va_calll (va_runV (As := [.long x3, .long x2]) (rest := []) ⟨hx, hb, hml, hown, hts⟩ (c_X13_times l D T _ h0 (fun k => cond (Nat.beq k 14) u_2 (q k)) v w a x3 x2 (show isB u_2 from hB14_r_1)) (cwV 2 hts gX13_adds_X13_times rfl rfl rfl hv_X13_times ⟨Nat.le_of_ble_eq_true rfl, Nat.le_of_ble_eq_true rfl⟩) (pW_V (q := (RX13, TX13, 45)) (ci := 10) (q0 := 0) hP hE hD rfl rfl [0] (by decide +kernel) rfl rfl) rfl rfl hl.1 rfl (lv_room (Nat.le_of_ble_eq_true rfl)) dX13_adds_13 ⟨Nat.le_of_ble_eq_true rfl, Nat.le_of_ble_eq_true rfl⟩) hS (fun q _ h => hFc q h) hFc (fun r_3 u_4 t H1 locs ht hvm hr_3 hB hz1 hk1 hS => ?_)
  obtain ⟨hi0_r_3, hi1_r_3, hi2_r_3⟩ := hr_3
  have hB14_r_3 : isB u_4 := hi0_r_3
  have hj1_r_3 : (u_4 : Int32).toInt = 0 ↔ ((u_2 : Int32).toInt = 0 ∧ fitM x3 x2) := hi1_r_3
  have hj2_r_3 : r_3 = x3 * x2 := hi2_r_3
  obtain ⟨hP1, hD1⟩ := hB
  rw [ht] at hP1
  obtain ⟨hP, hD⟩ := va_repl [(h0, .inr (10, (Value.int (q 0) :: Value.int (q 1) :: Value.int (q 2) :: Value.int (q 3) :: Value.int (q 4) :: Value.int (q 5) :: Value.int (q 6) :: Value.int (q 7) :: Value.ref (a 8) :: Value.ref (a 9) :: Value.ref (a 10) :: Value.ref (a 11) :: Value.ref (a 12) :: Value.ref (a 13) :: Value.int u_4 :: Value.long v :: Value.long w :: Value.ref (a 17) :: Value.ref (a 18) :: Value.ref (a 19) :: Value.ref (a 20) :: Value.ref (a 21) :: Value.ref (a 22) :: Value.ref (a 23) :: Value.int (q 24) :: Value.ref (a 25) :: Value.int (q 26) :: Value.ref (a 27) :: Value.int (q 28) :: Value.int (q 29) :: Value.int (q 30) :: Value.int (q 31) :: Value.int (q 32) :: Value.int (q 33) :: Value.ref (a 34) :: Value.ref (a 35) :: Value.ref (a 36) :: Value.ref (a 37) :: Value.ref (a 38) :: Value.ref (a 39) :: Value.ref (a 40) :: Value.int (q 41) :: Value.ref (a 42) :: Value.int (q 43) :: Value.int (q 44) :: [])))] hP hD [0] [0] rfl (by decide +kernel) rfl rfl rfl hk1 hP1
  clear hP1 hD1 hFc
  generalize H1 = H at hP hS ⊢
  refine lv_lstore (lv' := [(11, .long r_3), (9, .long r_1), (0, .ref h0), (1, .long x1), (3, .long x2), (5, .long x3), (7, .long x4)]) hx hb dX13_adds_16 hl (by decide +kernel) rfl (fun ls hl => ?_)
  refine lv_aload_n hx hb dX13_adds_18 rfl (lv_at hl 2 rfl) ?_
  refine lv_lload_n hx hb dX13_adds_19 rfl (lv_at hl 4 rfl) ?_
  refine lv_lload hx hb dX13_adds_20 (lv_at hl 6 rfl) ?_
  have hFc := va_free (wc := [(h0, .inr (10, (Value.int (q 0) :: Value.int (q 1) :: Value.int (q 2) :: Value.int (q 3) :: Value.int (q 4) :: Value.int (q 5) :: Value.int (q 6) :: Value.int (q 7) :: Value.ref (a 8) :: Value.ref (a 9) :: Value.ref (a 10) :: Value.ref (a 11) :: Value.ref (a 12) :: Value.ref (a 13) :: Value.int u_4 :: Value.long v :: Value.long w :: Value.ref (a 17) :: Value.ref (a 18) :: Value.ref (a 19) :: Value.ref (a 20) :: Value.ref (a 21) :: Value.ref (a 22) :: Value.ref (a 23) :: Value.int (q 24) :: Value.ref (a 25) :: Value.int (q 26) :: Value.ref (a 27) :: Value.int (q 28) :: Value.int (q 29) :: Value.int (q 30) :: Value.int (q 31) :: Value.int (q 32) :: Value.int (q 33) :: Value.ref (a 34) :: Value.ref (a 35) :: Value.ref (a 36) :: Value.ref (a 37) :: Value.ref (a 38) :: Value.ref (a 39) :: Value.ref (a 40) :: Value.int (q 41) :: Value.ref (a 42) :: Value.int (q 43) :: Value.int (q 44) :: [])))]) hD hS hA [0] rfl
  refine va_calll (va_runV (As := [.long x2, .long x4]) (rest := []) ⟨hx, hb, hml, hown, hts⟩ (c_X13_times l D T _ h0 (fun k => cond (Nat.beq k 14) u_4 (q k)) v w a x2 x4 (show isB u_4 from hB14_r_3)) (cwV 2 hts gX13_adds_X13_times rfl rfl rfl hv_X13_times ⟨Nat.le_of_ble_eq_true rfl, Nat.le_of_ble_eq_true rfl⟩) (pW_V (q := (RX13, TX13, 45)) (ci := 10) (q0 := 0) hP hE hD rfl rfl [0] (by decide +kernel) rfl rfl) rfl rfl hl.1 rfl (lv_room (Nat.le_of_ble_eq_true rfl)) dX13_adds_22 ⟨Nat.le_of_ble_eq_true rfl, Nat.le_of_ble_eq_true rfl⟩) hS (fun q _ h => hFc q h) hFc (fun r_5 u_6 t H1 locs ht hvm hr_5 hB hz1 hk1 hS => ?_)
  obtain ⟨hi0_r_5, hi1_r_5, hi2_r_5⟩ := hr_5
  have hB14_r_5 : isB u_6 := hi0_r_5
  have hj1_r_5 : (u_6 : Int32).toInt = 0 ↔ ((u_4 : Int32).toInt = 0 ∧ fitM x2 x4) := hi1_r_5
  have hj2_r_5 : r_5 = x2 * x4 := hi2_r_5
  obtain ⟨hP1, hD1⟩ := hB
  rw [ht] at hP1
  obtain ⟨hP, hD⟩ := va_repl [(h0, .inr (10, (Value.int (q 0) :: Value.int (q 1) :: Value.int (q 2) :: Value.int (q 3) :: Value.int (q 4) :: Value.int (q 5) :: Value.int (q 6) :: Value.int (q 7) :: Value.ref (a 8) :: Value.ref (a 9) :: Value.ref (a 10) :: Value.ref (a 11) :: Value.ref (a 12) :: Value.ref (a 13) :: Value.int u_6 :: Value.long v :: Value.long w :: Value.ref (a 17) :: Value.ref (a 18) :: Value.ref (a 19) :: Value.ref (a 20) :: Value.ref (a 21) :: Value.ref (a 22) :: Value.ref (a 23) :: Value.int (q 24) :: Value.ref (a 25) :: Value.int (q 26) :: Value.ref (a 27) :: Value.int (q 28) :: Value.int (q 29) :: Value.int (q 30) :: Value.int (q 31) :: Value.int (q 32) :: Value.int (q 33) :: Value.ref (a 34) :: Value.ref (a 35) :: Value.ref (a 36) :: Value.ref (a 37) :: Value.ref (a 38) :: Value.ref (a 39) :: Value.ref (a 40) :: Value.int (q 41) :: Value.ref (a 42) :: Value.int (q 43) :: Value.int (q 44) :: [])))] hP hD [0] [0] rfl (by decide +kernel) rfl rfl rfl hk1 hP1
  clear hP1 hD1 hFc
  generalize H1 = H at hP hS ⊢
  refine lv_lstore (lv' := [(13, .long r_5), (11, .long r_3), (9, .long r_1), (0, .ref h0), (1, .long x1), (3, .long x2), (5, .long x3), (7, .long x4)]) hx hb dX13_adds_25 hl (by decide +kernel) rfl (fun ls hl => ?_)
  refine lv_aload_n hx hb dX13_adds_27 rfl (lv_at hl 3 rfl) ?_
  refine va_get (D := D) (ci := 10) (v := .int u_6) (C := RX13) (T := TX13) (N := 45) hx hb hts in_X13_adds_X13 hown hE.1 hP 0 rfl rfl 14 (by decide +kernel) (hts (.fieldLink RX13 131 "ClauseBookModel" "isMuch" "Z") (List.mem_of_getElem? (i := 1) rfl)) (fun _ h9 => h9) rfl dX13_adds_28 ?_
  refine lv_if_eq (tgt := 38) hx hb dX13_adds_31 (by decide +kernel) (fun c_7 => ?_) (fun c_7 => ?_)
  · rw [fa_eq] at c_7
    try rw [ti_0] at c_7
    refine lv_aload_n hx hb dX13_adds_38 rfl (lv_at hl 3 rfl) ?_
    refine lv_lload hx hb dX13_adds_39 (lv_at hl 2 rfl) ?_
    refine lv_lload hx hb dX13_adds_41 (lv_at hl 1 rfl) ?_
    have hFc := va_free (wc := [(h0, .inr (10, (Value.int (q 0) :: Value.int (q 1) :: Value.int (q 2) :: Value.int (q 3) :: Value.int (q 4) :: Value.int (q 5) :: Value.int (q 6) :: Value.int (q 7) :: Value.ref (a 8) :: Value.ref (a 9) :: Value.ref (a 10) :: Value.ref (a 11) :: Value.ref (a 12) :: Value.ref (a 13) :: Value.int u_6 :: Value.long v :: Value.long w :: Value.ref (a 17) :: Value.ref (a 18) :: Value.ref (a 19) :: Value.ref (a 20) :: Value.ref (a 21) :: Value.ref (a 22) :: Value.ref (a 23) :: Value.int (q 24) :: Value.ref (a 25) :: Value.int (q 26) :: Value.ref (a 27) :: Value.int (q 28) :: Value.int (q 29) :: Value.int (q 30) :: Value.int (q 31) :: Value.int (q 32) :: Value.int (q 33) :: Value.ref (a 34) :: Value.ref (a 35) :: Value.ref (a 36) :: Value.ref (a 37) :: Value.ref (a 38) :: Value.ref (a 39) :: Value.ref (a 40) :: Value.int (q 41) :: Value.ref (a 42) :: Value.int (q 43) :: Value.int (q 44) :: [])))]) hD hS hA [0] rfl
    refine va_calll (va_runV (As := [.long r_1, .long r_3]) (rest := []) ⟨hx, hb, hml, hown, hts⟩ (c_X13_plus l D T _ h0 (fun k => cond (Nat.beq k 14) u_6 (q k)) v w a r_1 r_3 (show isB u_6 from hB14_r_5)) (cwV 2 hts gX13_adds_X13_plus rfl rfl rfl hv_X13_plus ⟨Nat.le_of_ble_eq_true rfl, Nat.le_of_ble_eq_true rfl⟩) (pW_V (q := (RX13, TX13, 45)) (ci := 10) (q0 := 0) hP hE hD rfl rfl [0] (by decide +kernel) rfl rfl) rfl rfl hl.1 rfl (lv_room (Nat.le_of_ble_eq_true rfl)) dX13_adds_43 ⟨Nat.le_of_ble_eq_true rfl, Nat.le_of_ble_eq_true rfl⟩) hS (fun q _ h => hFc q h) hFc (fun r_8 u_9 t H1 locs ht hvm hr_8 hB hz1 hk1 hS => ?_)
    obtain ⟨hi0_r_8, hi1_r_8, hi2_r_8⟩ := hr_8
    have hB14_r_8 : isB u_9 := hi0_r_8
    have hj1_r_8 : (u_9 : Int32).toInt = 0 ↔ ((u_6 : Int32).toInt = 0 ∧ fitA r_1 r_3) := hi1_r_8
    have hj2_r_8 : r_8 = r_1 + r_3 := hi2_r_8
    obtain ⟨hP1, hD1⟩ := hB
    rw [ht] at hP1
    obtain ⟨hP, hD⟩ := va_repl [(h0, .inr (10, (Value.int (q 0) :: Value.int (q 1) :: Value.int (q 2) :: Value.int (q 3) :: Value.int (q 4) :: Value.int (q 5) :: Value.int (q 6) :: Value.int (q 7) :: Value.ref (a 8) :: Value.ref (a 9) :: Value.ref (a 10) :: Value.ref (a 11) :: Value.ref (a 12) :: Value.ref (a 13) :: Value.int u_9 :: Value.long v :: Value.long w :: Value.ref (a 17) :: Value.ref (a 18) :: Value.ref (a 19) :: Value.ref (a 20) :: Value.ref (a 21) :: Value.ref (a 22) :: Value.ref (a 23) :: Value.int (q 24) :: Value.ref (a 25) :: Value.int (q 26) :: Value.ref (a 27) :: Value.int (q 28) :: Value.int (q 29) :: Value.int (q 30) :: Value.int (q 31) :: Value.int (q 32) :: Value.int (q 33) :: Value.ref (a 34) :: Value.ref (a 35) :: Value.ref (a 36) :: Value.ref (a 37) :: Value.ref (a 38) :: Value.ref (a 39) :: Value.ref (a 40) :: Value.int (q 41) :: Value.ref (a 42) :: Value.int (q 43) :: Value.int (q 44) :: [])))] hP hD [0] [0] rfl (by decide +kernel) rfl rfl rfl hk1 hP1
    clear hP1 hD1 hFc
    generalize H1 = H at hP hS ⊢
    refine lv_lstore (lv' := [(15, .long r_8), (13, .long r_5), (11, .long r_3), (9, .long r_1), (0, .ref h0), (1, .long x1), (3, .long x2), (5, .long x3), (7, .long x4)]) hx hb dX13_adds_46 hl (by decide +kernel) rfl (fun ls hl => ?_)
    refine lv_aload_n hx hb dX13_adds_48 rfl (lv_at hl 4 rfl) ?_
    refine lv_lload hx hb dX13_adds_49 (lv_at hl 0 rfl) ?_
    refine lv_lload hx hb dX13_adds_51 (lv_at hl 1 rfl) ?_
    have hFc := va_free (wc := [(h0, .inr (10, (Value.int (q 0) :: Value.int (q 1) :: Value.int (q 2) :: Value.int (q 3) :: Value.int (q 4) :: Value.int (q 5) :: Value.int (q 6) :: Value.int (q 7) :: Value.ref (a 8) :: Value.ref (a 9) :: Value.ref (a 10) :: Value.ref (a 11) :: Value.ref (a 12) :: Value.ref (a 13) :: Value.int u_9 :: Value.long v :: Value.long w :: Value.ref (a 17) :: Value.ref (a 18) :: Value.ref (a 19) :: Value.ref (a 20) :: Value.ref (a 21) :: Value.ref (a 22) :: Value.ref (a 23) :: Value.int (q 24) :: Value.ref (a 25) :: Value.int (q 26) :: Value.ref (a 27) :: Value.int (q 28) :: Value.int (q 29) :: Value.int (q 30) :: Value.int (q 31) :: Value.int (q 32) :: Value.int (q 33) :: Value.ref (a 34) :: Value.ref (a 35) :: Value.ref (a 36) :: Value.ref (a 37) :: Value.ref (a 38) :: Value.ref (a 39) :: Value.ref (a 40) :: Value.int (q 41) :: Value.ref (a 42) :: Value.int (q 43) :: Value.int (q 44) :: [])))]) hD hS hA [0] rfl
    refine va_callv (va_runV (As := [.long r_8, .long r_5]) (rest := []) ⟨hx, hb, hml, hown, hts⟩ (c_X13_becomes l D T _ h0 (fun k => cond (Nat.beq k 14) u_9 (q k)) v w a r_8 r_5 (show (u_9 : Int32).toInt = 0 → 1 ≤ r_5.toInt from (fun h9 => den_pos hx2 hx4 (hj1_r_5.1 (hj1_r_8.1 h9).1).2 hj2_r_5))) (cwV 2 hts gX13_adds_X13_becomes rfl rfl rfl hv_X13_becomes ⟨Nat.le_of_ble_eq_true rfl, Nat.le_of_ble_eq_true rfl⟩) (pW_V (q := (RX13, TX13, 45)) (ci := 10) (q0 := 0) hP hE hD rfl rfl [0] (by decide +kernel) rfl rfl) rfl rfl hl.1 rfl (lv_room (Nat.le_of_ble_eq_true rfl)) dX13_adds_53 ⟨Nat.le_of_ble_eq_true rfl, Nat.le_of_ble_eq_true rfl⟩) hS (fun q _ h => hFc q h) hFc (fun u_11 t H1 locs ht hvm hr_10 hB hz1 hk1 hS => ?_)
    obtain ⟨l_12, l_13⟩ := u_11
    obtain ⟨hi0_r_10, hi1_r_10⟩ := hr_10
    have hj0_r_10 : (u_9 : Int32).toInt = 0 ∨ 1 ≤ w.toInt → 1 ≤ l_13.toInt := hi0_r_10
    have hj1_r_10 : (u_9 : Int32).toInt = 0 → ((l_12, l_13) : Int64 × Int64) = redW r_8 r_5 := hi1_r_10
    obtain ⟨hP1, hD1⟩ := hB
    rw [ht] at hP1
    obtain ⟨hP, hD⟩ := va_repl [(h0, .inr (10, (Value.int (q 0) :: Value.int (q 1) :: Value.int (q 2) :: Value.int (q 3) :: Value.int (q 4) :: Value.int (q 5) :: Value.int (q 6) :: Value.int (q 7) :: Value.ref (a 8) :: Value.ref (a 9) :: Value.ref (a 10) :: Value.ref (a 11) :: Value.ref (a 12) :: Value.ref (a 13) :: Value.int u_9 :: Value.long l_12 :: Value.long l_13 :: Value.ref (a 17) :: Value.ref (a 18) :: Value.ref (a 19) :: Value.ref (a 20) :: Value.ref (a 21) :: Value.ref (a 22) :: Value.ref (a 23) :: Value.int (q 24) :: Value.ref (a 25) :: Value.int (q 26) :: Value.ref (a 27) :: Value.int (q 28) :: Value.int (q 29) :: Value.int (q 30) :: Value.int (q 31) :: Value.int (q 32) :: Value.int (q 33) :: Value.ref (a 34) :: Value.ref (a 35) :: Value.ref (a 36) :: Value.ref (a 37) :: Value.ref (a 38) :: Value.ref (a 39) :: Value.ref (a 40) :: Value.int (q 41) :: Value.ref (a 42) :: Value.int (q 43) :: Value.int (q 44) :: [])))] hP hD [0] [0] rfl (by decide +kernel) rfl rfl rfl hk1 hP1
    clear hP1 hD1 hFc
    generalize H1 = H at hP hS ⊢
    exact W.vret hx hb hr (fun t ht hW => ⟨⟨(u_9, l_12, l_13), rfl, ⟨(show isB u_9 from hB14_r_8), (show 1 ≤ l_13.toInt from (by first | omega | (subst_vars; omega))), (show (u_9 : Int32).toInt = 0 ↔ (((q 14) : Int32).toInt = 0 ∧ fitM x1 x4 ∧ fitM x3 x2 ∧ fitM x2 x4 ∧ fitA (x1 * x4) (x3 * x2)) from ⟨(fun h9 => by have h8 := hj1_r_8.1 h9; have h7 := hj1_r_5.1 h8.1; have h6 := hj1_r_3.1 h7.1; have h5 := hj1_r_1.1 h6.1; rw [hj2_r_1, hj2_r_3] at h8; exact ⟨h5.1, h5.2, h6.2, h7.2, h8.2⟩), (fun h9 => hj1_r_8.2 ⟨(hj1_r_5.2 ⟨hj1_r_3.2 ⟨hj1_r_1.2 ⟨h9.1, h9.2.1⟩, h9.2.2.1⟩, h9.2.2.2.1⟩), by rw [hj2_r_1, hj2_r_3]; exact h9.2.2.2.2⟩)⟩), (show (u_9 : Int32).toInt = 0 → ((l_12, l_13) : Int64 × Int64) = redW ((x1 * x4) + (x3 * x2)) (x2 * x4) from (fun h9 => by rw [← hj2_r_1, ← hj2_r_3, ← hj2_r_5, ← hj2_r_8]; exact hj1_r_10 h9))⟩, by rw [ht]; exact hP.sub [0] rfl, hD.sub [0] (by decide +kernel) rfl⟩, hS.F ht⟩) hS.2.2 dX13_adds_56
  · rw [fa_eq] at c_7
    try rw [ti_0] at c_7
    refine lv_lconst (v := 0) hx hb dX13_adds_34 (by decide +kernel) ?_
    refine lv_goto (tgt := 46) hx hb dX13_adds_35 (by decide +kernel) ?_
    refine lv_lstore (lv' := [(15, .long 0), (13, .long r_5), (11, .long r_3), (9, .long r_1), (0, .ref h0), (1, .long x1), (3, .long x2), (5, .long x3), (7, .long x4)]) hx hb dX13_adds_46 hl (by decide +kernel) rfl (fun ls hl => ?_)
    refine lv_aload_n hx hb dX13_adds_48 rfl (lv_at hl 4 rfl) ?_
    refine lv_lload hx hb dX13_adds_49 (lv_at hl 0 rfl) ?_
    refine lv_lload hx hb dX13_adds_51 (lv_at hl 1 rfl) ?_
    have hFc := va_free (wc := [(h0, .inr (10, (Value.int (q 0) :: Value.int (q 1) :: Value.int (q 2) :: Value.int (q 3) :: Value.int (q 4) :: Value.int (q 5) :: Value.int (q 6) :: Value.int (q 7) :: Value.ref (a 8) :: Value.ref (a 9) :: Value.ref (a 10) :: Value.ref (a 11) :: Value.ref (a 12) :: Value.ref (a 13) :: Value.int u_6 :: Value.long v :: Value.long w :: Value.ref (a 17) :: Value.ref (a 18) :: Value.ref (a 19) :: Value.ref (a 20) :: Value.ref (a 21) :: Value.ref (a 22) :: Value.ref (a 23) :: Value.int (q 24) :: Value.ref (a 25) :: Value.int (q 26) :: Value.ref (a 27) :: Value.int (q 28) :: Value.int (q 29) :: Value.int (q 30) :: Value.int (q 31) :: Value.int (q 32) :: Value.int (q 33) :: Value.ref (a 34) :: Value.ref (a 35) :: Value.ref (a 36) :: Value.ref (a 37) :: Value.ref (a 38) :: Value.ref (a 39) :: Value.ref (a 40) :: Value.int (q 41) :: Value.ref (a 42) :: Value.int (q 43) :: Value.int (q 44) :: [])))]) hD hS hA [0] rfl
    refine va_callv (va_runV (As := [.long 0, .long r_5]) (rest := []) ⟨hx, hb, hml, hown, hts⟩ (c_X13_becomes l D T _ h0 (fun k => cond (Nat.beq k 14) u_6 (q k)) v w a 0 r_5 (show (u_6 : Int32).toInt = 0 → 1 ≤ r_5.toInt from (fun h9 => absurd h9 (by omega)))) (cwV 2 hts gX13_adds_X13_becomes rfl rfl rfl hv_X13_becomes ⟨Nat.le_of_ble_eq_true rfl, Nat.le_of_ble_eq_true rfl⟩) (pW_V (q := (RX13, TX13, 45)) (ci := 10) (q0 := 0) hP hE hD rfl rfl [0] (by decide +kernel) rfl rfl) rfl rfl hl.1 rfl (lv_room (Nat.le_of_ble_eq_true rfl)) dX13_adds_53 ⟨Nat.le_of_ble_eq_true rfl, Nat.le_of_ble_eq_true rfl⟩) hS (fun q _ h => hFc q h) hFc (fun u_15 t H1 locs ht hvm hr_14 hB hz1 hk1 hS => ?_)
    obtain ⟨l_16, l_17⟩ := u_15
    obtain ⟨hi0_r_14, hi1_r_14⟩ := hr_14
    have hj0_r_14 : (u_6 : Int32).toInt = 0 ∨ 1 ≤ w.toInt → 1 ≤ l_17.toInt := hi0_r_14
    have hj1_r_14 : (u_6 : Int32).toInt = 0 → ((l_16, l_17) : Int64 × Int64) = redW (0 : Int64) r_5 := hi1_r_14
    obtain ⟨hP1, hD1⟩ := hB
    rw [ht] at hP1
    obtain ⟨hP, hD⟩ := va_repl [(h0, .inr (10, (Value.int (q 0) :: Value.int (q 1) :: Value.int (q 2) :: Value.int (q 3) :: Value.int (q 4) :: Value.int (q 5) :: Value.int (q 6) :: Value.int (q 7) :: Value.ref (a 8) :: Value.ref (a 9) :: Value.ref (a 10) :: Value.ref (a 11) :: Value.ref (a 12) :: Value.ref (a 13) :: Value.int u_6 :: Value.long l_16 :: Value.long l_17 :: Value.ref (a 17) :: Value.ref (a 18) :: Value.ref (a 19) :: Value.ref (a 20) :: Value.ref (a 21) :: Value.ref (a 22) :: Value.ref (a 23) :: Value.int (q 24) :: Value.ref (a 25) :: Value.int (q 26) :: Value.ref (a 27) :: Value.int (q 28) :: Value.int (q 29) :: Value.int (q 30) :: Value.int (q 31) :: Value.int (q 32) :: Value.int (q 33) :: Value.ref (a 34) :: Value.ref (a 35) :: Value.ref (a 36) :: Value.ref (a 37) :: Value.ref (a 38) :: Value.ref (a 39) :: Value.ref (a 40) :: Value.int (q 41) :: Value.ref (a 42) :: Value.int (q 43) :: Value.int (q 44) :: [])))] hP hD [0] [0] rfl (by decide +kernel) rfl rfl rfl hk1 hP1
    clear hP1 hD1 hFc
    generalize H1 = H at hP hS ⊢
    exact W.vret hx hb hr (fun t ht hW => ⟨⟨(u_6, l_16, l_17), rfl, ⟨(show isB u_6 from hB14_r_5), (show 1 ≤ l_17.toInt from (by first | omega | (subst_vars; omega))), (show (u_6 : Int32).toInt = 0 ↔ (((q 14) : Int32).toInt = 0 ∧ fitM x1 x4 ∧ fitM x3 x2 ∧ fitM x2 x4 ∧ fitA (x1 * x4) (x3 * x2)) from ⟨(fun h9 => absurd h9 (by omega)), (fun h9 => absurd (hj1_r_5.2 ⟨hj1_r_3.2 ⟨hj1_r_1.2 ⟨h9.1, h9.2.1⟩, h9.2.2.1⟩, h9.2.2.2.1⟩) (by omega))⟩), (show (u_6 : Int32).toInt = 0 → ((l_16, l_17) : Int64 × Int64) = redW ((x1 * x4) + (x3 * x2)) (x2 * x4) from (fun h9 => absurd h9 (by omega)))⟩, by rw [ht]; exact hP.sub [0] rfl, hD.sub [0] (by decide +kernel) rfl⟩, hS.F ht⟩) hS.2.2 dX13_adds_56
end
