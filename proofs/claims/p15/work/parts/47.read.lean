theorem dX12_read_0 : decode cX12_read 0 = .ok (.iload_n 3, 1) := by decide +kernel
theorem dX12_read_1 : decode cX12_read 1 = .ok (.iconst 0, 1) := by decide +kernel
theorem dX12_read_102 : decode cX12_read 102 = .ok (.invokestatic 217, 3) := by decide +kernel
theorem dX12_read_105 : decode cX12_read 105 = .ok (.lreturn, 1) := by decide +kernel
theorem dX12_read_12 : decode cX12_read 12 = .ok (.lreturn, 1) := by decide +kernel
theorem dX12_read_13 : decode cX12_read 13 = .ok (.aload_n 0, 1) := by decide +kernel
theorem dX12_read_14 : decode cX12_read 14 = .ok (.iload_n 1, 1) := by decide +kernel
theorem dX12_read_15 : decode cX12_read 15 = .ok (.iload_n 2, 1) := by decide +kernel
theorem dX12_read_16 : decode cX12_read 16 = .ok (.invokevirtual 321, 3) := by decide +kernel
theorem dX12_read_19 : decode cX12_read 19 = .ok (.istore 4, 2) := by decide +kernel
theorem dX12_read_2 : decode cX12_read 2 = .ok (.iconst 3, 1) := by decide +kernel
theorem dX12_read_21 : decode cX12_read 21 = .ok (.iload 4, 2) := by decide +kernel
theorem dX12_read_23 : decode cX12_read 23 = .ok (.ifCond .eq 11, 3) := by decide +kernel
theorem dX12_read_26 : decode cX12_read 26 = .ok (.ldc2_w 324, 3) := by decide +kernel
theorem dX12_read_29 : decode cX12_read 29 = .ok (.iload 4, 2) := by decide +kernel
theorem dX12_read_3 : decode cX12_read 3 = .ok (.invokestatic 77, 3) := by decide +kernel
theorem dX12_read_31 : decode cX12_read 31 = .ok (.i2l, 1) := by decide +kernel
theorem dX12_read_32 : decode cX12_read 32 = .ok (.ladd, 1) := by decide +kernel
theorem dX12_read_33 : decode cX12_read 33 = .ok (.lreturn, 1) := by decide +kernel
theorem dX12_read_34 : decode cX12_read 34 = .ok (.aload_n 0, 1) := by decide +kernel
theorem dX12_read_35 : decode cX12_read 35 = .ok (.getfield 65, 3) := by decide +kernel
theorem dX12_read_38 : decode cX12_read 38 = .ok (.iload_n 1, 1) := by decide +kernel
theorem dX12_read_39 : decode cX12_read 39 = .ok (.aaload, 1) := by decide +kernel
theorem dX12_read_40 : decode cX12_read 40 = .ok (.astore 5, 2) := by decide +kernel
theorem dX12_read_42 : decode cX12_read 42 = .ok (.iload_n 3, 1) := by decide +kernel
theorem dX12_read_43 : decode cX12_read 43 = .ok (.tableswitch 47 0 2 #[25, 32, 40], 25) := by decide +kernel
theorem dX12_read_6 : decode cX12_read 6 = .ok (.ifCond .ne 7, 3) := by decide +kernel
theorem dX12_read_68 : decode cX12_read 68 = .ok (.aload 5, 2) := by decide +kernel
theorem dX12_read_70 : decode cX12_read 70 = .ok (.iload_n 2, 1) := by decide +kernel
theorem dX12_read_71 : decode cX12_read 71 = .ok (.invokevirtual 326, 3) := by decide +kernel
theorem dX12_read_74 : decode cX12_read 74 = .ok (.lreturn, 1) := by decide +kernel
theorem dX12_read_75 : decode cX12_read 75 = .ok (.aload 5, 2) := by decide +kernel
theorem dX12_read_77 : decode cX12_read 77 = .ok (.iload_n 2, 1) := by decide +kernel
theorem dX12_read_78 : decode cX12_read 78 = .ok (.invokevirtual 330, 3) := by decide +kernel
theorem dX12_read_81 : decode cX12_read 81 = .ok (.i2l, 1) := by decide +kernel
theorem dX12_read_82 : decode cX12_read 82 = .ok (.lreturn, 1) := by decide +kernel
theorem dX12_read_83 : decode cX12_read 83 = .ok (.aload 5, 2) := by decide +kernel
theorem dX12_read_85 : decode cX12_read 85 = .ok (.iload_n 2, 1) := by decide +kernel
theorem dX12_read_86 : decode cX12_read 86 = .ok (.invokevirtual 333, 3) := by decide +kernel
theorem dX12_read_89 : decode cX12_read 89 = .ok (.lreturn, 1) := by decide +kernel
theorem dX12_read_9 : decode cX12_read 9 = .ok (.ldc2_w 183, 3) := by decide +kernel
theorem dX12_read_90 : decode cX12_read 90 = .ok (.aload 5, 2) := by decide +kernel
theorem dX12_read_92 : decode cX12_read 92 = .ok (.iload_n 2, 1) := by decide +kernel
theorem dX12_read_93 : decode cX12_read 93 = .ok (.invokevirtual 336, 3) := by decide +kernel
theorem dX12_read_96 : decode cX12_read 96 = .ok (.ldc2_w 340, 3) := by decide +kernel
theorem dX12_read_99 : decode cX12_read 99 = .ok (.invokestatic 221, 3) := by decide +kernel
set_option maxRecDepth 20000 in
theorem ggX12_read_X12_placeFault : GoodIn wsX12_read wsX12_placeFault := goodIn_r _ [12, 3, 13, 14, 5, 6, 7, 8, 57, 58, 59, 60, 61, 62, 63, 64, 65, 66, 67, 68, 69, 70, 71, 72, 73] rfl (by decide +kernel)
set_option maxRecDepth 20000 in
theorem ggX12_read_X12_within : GoodIn wsX12_read wsX12_within := goodIn_r _ [8] rfl (by decide +kernel)
set_option maxRecDepth 20000 in
theorem ggX12_read_X5_doubleBits : GoodIn wsX12_read wsX5_doubleBits := goodIn_r _ [39, 40, 30, 31, 27, 32, 33, 34, 35, 36] rfl (by decide +kernel)
set_option maxRecDepth 20000 in
theorem ggX12_read_X5_remainder : GoodIn wsX12_read wsX5_remainder := goodIn_r _ [55, 33] rfl (by decide +kernel)
set_option maxRecDepth 20000 in
theorem ggX12_read_X9_asDouble : GoodIn wsX12_read wsX9_asDouble := goodIn_r _ [52, 20, 21, 22, 23, 24, 68, 69, 70, 71, 72, 73] rfl (by decide +kernel)
set_option maxRecDepth 20000 in
theorem ggX12_read_X9_asInt : GoodIn wsX12_read wsX9_asInt := goodIn_r _ [44, 20, 21, 22, 23, 24, 68, 69, 70, 71, 72, 73] rfl (by decide +kernel)
set_option maxRecDepth 20000 in
theorem ggX12_read_X9_asItIs : GoodIn wsX12_read wsX9_asItIs := goodIn_r _ [19, 20, 21, 22, 23, 24, 25, 26, 27, 28, 29, 30, 31, 32, 33, 34, 35, 36, 37, 38, 39, 40, 68, 69, 70, 71, 72, 73] rfl (by decide +kernel)
set_option maxRecDepth 20000 in
theorem ggX12_read_X9_asLong : GoodIn wsX12_read wsX9_asLong := goodIn_r _ [48, 20, 21, 22, 23, 24, 68, 69, 70, 71, 72, 73] rfl (by decide +kernel)
set_option maxRecDepth 20000 in
theorem gX12_read_X12_placeFault : GoodIn wsX12_read (wsV RX12 321 RX12 yX12_placeFault wsX12_placeFault) := goodIn_app (goodIn_r _ [9, 10, 11, 7] rfl (by decide +kernel)) ggX12_read_X12_placeFault
set_option maxRecDepth 20000 in
theorem gX12_read_X12_within : GoodIn wsX12_read (va_wsS RX12 77 yX12_within wsX12_within) := goodIn_app (goodIn_of _ (by decide +kernel)) ggX12_read_X12_within
set_option maxRecDepth 20000 in
theorem gX12_read_X5_doubleBits : GoodIn wsX12_read (va_wsS RX12 217 yX5_doubleBits wsX5_doubleBits) := goodIn_app (goodIn_of _ (by decide +kernel)) ggX12_read_X5_doubleBits
set_option maxRecDepth 20000 in
theorem gX12_read_X5_remainder : GoodIn wsX12_read (va_wsS RX12 221 yX5_remainder wsX5_remainder) := goodIn_app (goodIn_of _ (by decide +kernel)) ggX12_read_X5_remainder
set_option maxRecDepth 20000 in
theorem gX12_read_X9_asDouble : GoodIn wsX12_read (wsV RX12 336 RX9 yX9_asDouble wsX9_asDouble) := goodIn_app (goodIn_r _ [49, 50, 51, 18] rfl (by decide +kernel)) ggX12_read_X9_asDouble
set_option maxRecDepth 20000 in
theorem gX12_read_X9_asInt : GoodIn wsX12_read (wsV RX12 330 RX9 yX9_asInt wsX9_asInt) := goodIn_app (goodIn_r _ [41, 42, 43, 18] rfl (by decide +kernel)) ggX12_read_X9_asInt
set_option maxRecDepth 20000 in
theorem gX12_read_X9_asItIs : GoodIn wsX12_read (wsV RX12 326 RX9 yX9_asItIs wsX9_asItIs) := goodIn_app (goodIn_r _ [15, 16, 17, 18] rfl (by decide +kernel)) ggX12_read_X9_asItIs
set_option maxRecDepth 20000 in
theorem gX12_read_X9_asLong : GoodIn wsX12_read (wsV RX12 333 RX9 yX9_asLong wsX9_asLong) := goodIn_app (goodIn_r _ [45, 46, 47, 18] rfl (by decide +kernel)) ggX12_read_X9_asLong
theorem hs_X5_remainder : yX5_remainder.cls ≠ "java/lang/invoke/MethodHandle" ∧ yX5_remainder.cls ≠ "java/lang/invoke/VarHandle" ∧ (parseMethodDescriptor yX5_remainder.desc).map (fun d => d.parameters.length) = some 2 := by decide +kernel
theorem hv_X9_asDouble : yX9_asDouble.cls = RX9 ∧ yX9_asDouble.cls ≠ "java/lang/invoke/MethodHandle" ∧ yX9_asDouble.cls ≠ "java/lang/invoke/VarHandle" ∧ (parseMethodDescriptor yX9_asDouble.desc).map (fun d => d.parameters.length) = some 1 := by decide +kernel
theorem hv_X9_asInt : yX9_asInt.cls = RX9 ∧ yX9_asInt.cls ≠ "java/lang/invoke/MethodHandle" ∧ yX9_asInt.cls ≠ "java/lang/invoke/VarHandle" ∧ (parseMethodDescriptor yX9_asInt.desc).map (fun d => d.parameters.length) = some 1 := by decide +kernel
theorem hv_X9_asItIs : yX9_asItIs.cls = RX9 ∧ yX9_asItIs.cls ≠ "java/lang/invoke/MethodHandle" ∧ yX9_asItIs.cls ≠ "java/lang/invoke/VarHandle" ∧ (parseMethodDescriptor yX9_asItIs.desc).map (fun d => d.parameters.length) = some 1 := by decide +kernel
theorem hv_X9_asLong : yX9_asLong.cls = RX9 ∧ yX9_asLong.cls ≠ "java/lang/invoke/MethodHandle" ∧ yX9_asLong.cls ≠ "java/lang/invoke/VarHandle" ∧ (parseMethodDescriptor yX9_asLong.desc).map (fun d => d.parameters.length) = some 1 := by decide +kernel
set_option maxRecDepth 20000 in
theorem in_X12_read_X12 : ∀ w ∈ wsX120, w ∈ wsX12_read := sub_r [57, 58, 59, 60, 61, 62, 63, 64, 65, 66, 67] rfl
set_option maxHeartbeats 4000000 in
set_option maxRecDepth 100000 in
theorem c_X12_read (l : Launch) (D : va_G) (T : Nat → ClassId) (sz : Nat) (h0 : Nat) (h1 : Nat) (fs0 : List Value) (t0 : Nat) (t1 : Nat) (t2 : Nat) (t3 : Nat) (a00 : Nat) (a01 : Nat) (a02 : Nat) (a03 : Nat) (a10 : Nat) (a11 : Nat) (a12 : Nat) (a13 : Nat) (a20 : Nat) (a21 : Nat) (a22 : Nat) (a23 : Nat) (a30 : Nat) (a31 : Nat) (a32 : Nat) (a33 : Nat) (so : Nat → Int32) (sn : Nat → Int32) (si : Nat → Nat → Int32) (sl : Nat → Nat → Int64) (sf : Nat → Nat → UInt32) (sd : Nat → Nat → UInt64) (x1 : Int32) (x2 : Int32) (x3 : Int32) (e0_9 : fs0[9]? = some (.ref h1)) (hs0 : (-1 ≤ (so 0).toInt ∧ (so 0).toInt ≤ 3) ∧ 0 ≤ (sn 0).toInt ∧ (sn 0).toInt ≤ 30) (hs1 : (-1 ≤ (so 1).toInt ∧ (so 1).toInt ≤ 3) ∧ 0 ≤ (sn 1).toInt ∧ (sn 1).toInt ≤ 30) (hs2 : (-1 ≤ (so 2).toInt ∧ (so 2).toInt ≤ 3) ∧ 0 ≤ (sn 2).toInt ∧ (sn 2).toInt ≤ 30) (hs3 : (-1 ≤ (so 3).toInt ∧ (so 3).toInt ≤ 3) ∧ 0 ≤ (sn 3).toInt ∧ (sn 3).toInt ≤ 30) : MetD lw_cs l yX12_read wsX12_read ({ frames := 3, cells := 0, slots := 0, locals := 72 }) (pW [.ref h0, .int x1, .int x2, .int x3] D T [(h0, .inr (9, fs0)), (h1, .inl (T 6, 4, .inr (.inr (.inr (.inr (va_up (va_up (va_up (va_up (fun _ => none) 0 (some t0)) 1 (some t1)) 2 (some t2)) 3 (some t3))))))), (t0, .inr (6, [.int (so 0), .int (sn 0), .ref a00, .ref a01, .ref a02, .ref a03])), (t1, .inr (6, [.int (so 1), .int (sn 1), .ref a10, .ref a11, .ref a12, .ref a13])), (t2, .inr (6, [.int (so 2), .int (sn 2), .ref a20, .ref a21, .ref a22, .ref a23])), (t3, .inr (6, [.int (so 3), .int (sn 3), .ref a30, .ref a31, .ref a32, .ref a33])), (a00, .inl (T 0, 30, .inl (si 0))), (a01, .inl (T 1, 30, .inr (.inl (sl 0)))), (a02, .inl (T 2, 30, .inr (.inr (.inl (sf 0))))), (a03, .inl (T 3, 30, .inr (.inr (.inr (.inl (sd 0)))))), (a10, .inl (T 0, 30, .inl (si 1))), (a11, .inl (T 1, 30, .inr (.inl (sl 1)))), (a12, .inl (T 2, 30, .inr (.inr (.inl (sf 1))))), (a13, .inl (T 3, 30, .inr (.inr (.inr (.inl (sd 1)))))), (a20, .inl (T 0, 30, .inl (si 2))), (a21, .inl (T 1, 30, .inr (.inl (sl 2)))), (a22, .inl (T 2, 30, .inr (.inr (.inl (sf 2))))), (a23, .inl (T 3, 30, .inr (.inr (.inr (.inl (sd 2)))))), (a30, .inl (T 0, 30, .inl (si 3))), (a31, .inl (T 1, 30, .inr (.inl (sl 3)))), (a32, .inl (T 2, 30, .inr (.inr (.inl (sf 3))))), (a33, .inl (T 3, 30, .inr (.inr (.inr (.inl (sd 3))))))] sz) (va_Ql (fun (r : Int64) (u : Unit) => True) (bW D (va_A [(h0, .inr (9, fs0)), (h1, .inl (T 6, 4, .inr (.inr (.inr (.inr (va_up (va_up (va_up (va_up (fun _ => none) 0 (some t0)) 1 (some t1)) 2 (some t2)) 3 (some t3))))))), (t0, .inr (6, [.int (so 0), .int (sn 0), .ref a00, .ref a01, .ref a02, .ref a03])), (t1, .inr (6, [.int (so 1), .int (sn 1), .ref a10, .ref a11, .ref a12, .ref a13])), (t2, .inr (6, [.int (so 2), .int (sn 2), .ref a20, .ref a21, .ref a22, .ref a23])), (t3, .inr (6, [.int (so 3), .int (sn 3), .ref a30, .ref a31, .ref a32, .ref a33])), (a00, .inl (T 0, 30, .inl (si 0))), (a01, .inl (T 1, 30, .inr (.inl (sl 0)))), (a02, .inl (T 2, 30, .inr (.inr (.inl (sf 0))))), (a03, .inl (T 3, 30, .inr (.inr (.inr (.inl (sd 0)))))), (a10, .inl (T 0, 30, .inl (si 1))), (a11, .inl (T 1, 30, .inr (.inl (sl 1)))), (a12, .inl (T 2, 30, .inr (.inr (.inl (sf 1))))), (a13, .inl (T 3, 30, .inr (.inr (.inr (.inl (sd 1)))))), (a20, .inl (T 0, 30, .inl (si 2))), (a21, .inl (T 1, 30, .inr (.inl (sl 2)))), (a22, .inl (T 2, 30, .inr (.inr (.inl (sf 2))))), (a23, .inl (T 3, 30, .inr (.inr (.inr (.inl (sd 2)))))), (a30, .inl (T 0, 30, .inl (si 3))), (a31, .inl (T 1, 30, .inr (.inl (sl 3)))), (a32, .inl (T 2, 30, .inr (.inr (.inl (sf 3))))), (a33, .inl (T 3, 30, .inr (.inr (.inr (.inl (sd 3))))))] sz) (fun (u : Unit) => [(h0, .inr (9, fs0)), (h1, .inl (T 6, 4, .inr (.inr (.inr (.inr (va_up (va_up (va_up (va_up (fun _ => none) 0 (some t0)) 1 (some t1)) 2 (some t2)) 3 (some t3))))))), (t0, .inr (6, [.int (so 0), .int (sn 0), .ref a00, .ref a01, .ref a02, .ref a03])), (t1, .inr (6, [.int (so 1), .int (sn 1), .ref a10, .ref a11, .ref a12, .ref a13])), (t2, .inr (6, [.int (so 2), .int (sn 2), .ref a20, .ref a21, .ref a22, .ref a23])), (t3, .inr (6, [.int (so 3), .int (sn 3), .ref a30, .ref a31, .ref a32, .ref a33])), (a00, .inl (T 0, 30, .inl (si 0))), (a01, .inl (T 1, 30, .inr (.inl (sl 0)))), (a02, .inl (T 2, 30, .inr (.inr (.inl (sf 0))))), (a03, .inl (T 3, 30, .inr (.inr (.inr (.inl (sd 0)))))), (a10, .inl (T 0, 30, .inl (si 1))), (a11, .inl (T 1, 30, .inr (.inl (sl 1)))), (a12, .inl (T 2, 30, .inr (.inr (.inl (sf 1))))), (a13, .inl (T 3, 30, .inr (.inr (.inr (.inl (sd 1)))))), (a20, .inl (T 0, 30, .inl (si 2))), (a21, .inl (T 1, 30, .inr (.inl (sl 2)))), (a22, .inl (T 2, 30, .inr (.inr (.inl (sf 2))))), (a23, .inl (T 3, 30, .inr (.inr (.inr (.inl (sd 2)))))), (a30, .inl (T 0, 30, .inl (si 3))), (a31, .inl (T 1, 30, .inr (.inl (sl 3)))), (a32, .inl (T 2, 30, .inr (.inr (.inl (sf 3))))), (a33, .inl (T 3, 30, .inr (.inr (.inr (.inl (sd 3))))))])) (va_A [(h0, .inr (9, fs0)), (h1, .inl (T 6, 4, .inr (.inr (.inr (.inr (va_up (va_up (va_up (va_up (fun _ => none) 0 (some t0)) 1 (some t1)) 2 (some t2)) 3 (some t3))))))), (t0, .inr (6, [.int (so 0), .int (sn 0), .ref a00, .ref a01, .ref a02, .ref a03])), (t1, .inr (6, [.int (so 1), .int (sn 1), .ref a10, .ref a11, .ref a12, .ref a13])), (t2, .inr (6, [.int (so 2), .int (sn 2), .ref a20, .ref a21, .ref a22, .ref a23])), (t3, .inr (6, [.int (so 3), .int (sn 3), .ref a30, .ref a31, .ref a32, .ref a33])), (a00, .inl (T 0, 30, .inl (si 0))), (a01, .inl (T 1, 30, .inr (.inl (sl 0)))), (a02, .inl (T 2, 30, .inr (.inr (.inl (sf 0))))), (a03, .inl (T 3, 30, .inr (.inr (.inr (.inl (sd 0)))))), (a10, .inl (T 0, 30, .inl (si 1))), (a11, .inl (T 1, 30, .inr (.inl (sl 1)))), (a12, .inl (T 2, 30, .inr (.inr (.inl (sf 1))))), (a13, .inl (T 3, 30, .inr (.inr (.inr (.inl (sd 1)))))), (a20, .inl (T 0, 30, .inl (si 2))), (a21, .inl (T 1, 30, .inr (.inl (sl 2)))), (a22, .inl (T 2, 30, .inr (.inr (.inl (sf 2))))), (a23, .inl (T 3, 30, .inr (.inr (.inr (.inl (sd 2)))))), (a30, .inl (T 0, 30, .inl (si 3))), (a31, .inl (T 1, 30, .inr (.inl (sl 3)))), (a32, .inl (T 2, 30, .inr (.inr (.inl (sf 3))))), (a33, .inl (T 3, 30, .inr (.inr (.inr (.inl (sd 3))))))] sz)) 0 0 (va_A [(h0, .inr (9, fs0)), (h1, .inl (T 6, 4, .inr (.inr (.inr (.inr (va_up (va_up (va_up (va_up (fun _ => none) 0 (some t0)) 1 (some t1)) 2 (some t2)) 3 (some t3))))))), (t0, .inr (6, [.int (so 0), .int (sn 0), .ref a00, .ref a01, .ref a02, .ref a03])), (t1, .inr (6, [.int (so 1), .int (sn 1), .ref a10, .ref a11, .ref a12, .ref a13])), (t2, .inr (6, [.int (so 2), .int (sn 2), .ref a20, .ref a21, .ref a22, .ref a23])), (t3, .inr (6, [.int (so 3), .int (sn 3), .ref a30, .ref a31, .ref a32, .ref a33])), (a00, .inl (T 0, 30, .inl (si 0))), (a01, .inl (T 1, 30, .inr (.inl (sl 0)))), (a02, .inl (T 2, 30, .inr (.inr (.inl (sf 0))))), (a03, .inl (T 3, 30, .inr (.inr (.inr (.inl (sd 0)))))), (a10, .inl (T 0, 30, .inl (si 1))), (a11, .inl (T 1, 30, .inr (.inl (sl 1)))), (a12, .inl (T 2, 30, .inr (.inr (.inl (sf 1))))), (a13, .inl (T 3, 30, .inr (.inr (.inr (.inl (sd 1)))))), (a20, .inl (T 0, 30, .inl (si 2))), (a21, .inl (T 1, 30, .inr (.inl (sl 2)))), (a22, .inl (T 2, 30, .inr (.inr (.inl (sf 2))))), (a23, .inl (T 3, 30, .inr (.inr (.inr (.inl (sd 2)))))), (a30, .inl (T 0, 30, .inl (si 3))), (a31, .inl (T 1, 30, .inr (.inl (sl 3)))), (a32, .inl (T 2, 30, .inr (.inr (.inl (sf 3))))), (a33, .inl (T 3, 30, .inr (.inr (.inr (.inl (sd 3))))))] sz) := by
  refine MetD.ofW (cc := cX12_read) (maxL := 6) (ret := (some .long)) (by decide +kernel) rfl ?_
  intro p e s m args below meth c s₁ B hml hv hd0
  obtain ⟨rfl, hsz, hP, hE0, hD0⟩ := hv
  have hx := B.exec
  have hb := B.bytes
  have hr := B.returns
  have hts0 := atoms_spec (ws := wsX12_read) B.pre
  have hown0 : s.vm.findClass RX12 = some m.cls := findClass_of_methodNamed B.named
  have hlocks := B.notSynchronized
  subst hsz
  have hD := hD0.self (sz := s.heap.size)
  generalize hAe : va_A [(h0, .inr (9, fs0)), (h1, .inl (T 6, 4, .inr (.inr (.inr (.inr (va_up (va_up (va_up (va_up (fun _ => none) 0 (some t0)) 1 (some t1)) 2 (some t2)) 3 (some t3))))))), (t0, .inr (6, [.int (so 0), .int (sn 0), .ref a00, .ref a01, .ref a02, .ref a03])), (t1, .inr (6, [.int (so 1), .int (sn 1), .ref a10, .ref a11, .ref a12, .ref a13])), (t2, .inr (6, [.int (so 2), .int (sn 2), .ref a20, .ref a21, .ref a22, .ref a23])), (t3, .inr (6, [.int (so 3), .int (sn 3), .ref a30, .ref a31, .ref a32, .ref a33])), (a00, .inl (T 0, 30, .inl (si 0))), (a01, .inl (T 1, 30, .inr (.inl (sl 0)))), (a02, .inl (T 2, 30, .inr (.inr (.inl (sf 0))))), (a03, .inl (T 3, 30, .inr (.inr (.inr (.inl (sd 0)))))), (a10, .inl (T 0, 30, .inl (si 1))), (a11, .inl (T 1, 30, .inr (.inl (sl 1)))), (a12, .inl (T 2, 30, .inr (.inr (.inl (sf 1))))), (a13, .inl (T 3, 30, .inr (.inr (.inr (.inl (sd 1)))))), (a20, .inl (T 0, 30, .inl (si 2))), (a21, .inl (T 1, 30, .inr (.inl (sl 2)))), (a22, .inl (T 2, 30, .inr (.inr (.inl (sf 2))))), (a23, .inl (T 3, 30, .inr (.inr (.inr (.inl (sd 2)))))), (a30, .inl (T 0, 30, .inl (si 3))), (a31, .inl (T 1, 30, .inr (.inl (sl 3)))), (a32, .inl (T 2, 30, .inr (.inr (.inl (sf 3))))), (a33, .inl (T 3, 30, .inr (.inr (.inr (.inl (sd 3))))))] s.heap.size = A at hD ⊢
  have hA : ∀ q : Nat, s.heap.size ≤ q → A q := fun q h => by rw [← hAe]; exact Or.inr h
  have hS : va_S A s.heap s.heap [] := va_S.rf
  have hP : va_P D vwCl [(h0, .inr (9, fs0)), (h1, .inl (T 6, 4, .inr (.inr (.inr (.inr (va_up (va_up (va_up (va_up (fun _ => none) 0 (some t0)) 1 (some t1)) 2 (some t2)) 3 (some t3))))))), (t0, .inr (6, [.int (so 0), .int (sn 0), .ref a00, .ref a01, .ref a02, .ref a03])), (t1, .inr (6, [.int (so 1), .int (sn 1), .ref a10, .ref a11, .ref a12, .ref a13])), (t2, .inr (6, [.int (so 2), .int (sn 2), .ref a20, .ref a21, .ref a22, .ref a23])), (t3, .inr (6, [.int (so 3), .int (sn 3), .ref a30, .ref a31, .ref a32, .ref a33])), (a00, .inl (T 0, 30, .inl (si 0))), (a01, .inl (T 1, 30, .inr (.inl (sl 0)))), (a02, .inl (T 2, 30, .inr (.inr (.inl (sf 0))))), (a03, .inl (T 3, 30, .inr (.inr (.inr (.inl (sd 0)))))), (a10, .inl (T 0, 30, .inl (si 1))), (a11, .inl (T 1, 30, .inr (.inl (sl 1)))), (a12, .inl (T 2, 30, .inr (.inr (.inl (sf 1))))), (a13, .inl (T 3, 30, .inr (.inr (.inr (.inl (sd 1)))))), (a20, .inl (T 0, 30, .inl (si 2))), (a21, .inl (T 1, 30, .inr (.inl (sl 2)))), (a22, .inl (T 2, 30, .inr (.inr (.inl (sf 2))))), (a23, .inl (T 3, 30, .inr (.inr (.inr (.inl (sd 2)))))), (a30, .inl (T 0, 30, .inl (si 3))), (a31, .inl (T 1, 30, .inr (.inl (sl 3)))), (a32, .inl (T 2, 30, .inr (.inr (.inl (sf 3))))), (a33, .inl (T 3, 30, .inr (.inr (.inr (.inl (sd 3))))))] s.heap := hP
  have hl := lv_entry ([.ref h0, .int x1, .int x2, .int x3]) (n := 6) (Nat.le_of_ble_eq_true rfl)
  rw [lg_entry_eq]
  generalize (lg_sl ([.ref h0, .int x1, .int x2, .int x3]) ++ List.replicate (6 - (lg_sl ([.ref h0, .int x1, .int x2, .int x3])).length) Slot.unset).toArray = ls at hl ⊢
  have hl : lv_has ls 6 [(0, .ref h0), (1, .int x1), (2, .int x2), (3, .int x3)] := hl
  clear hD0
  have hts := dr_words hts0 s.drawn
  have hE : ekK D T (s.setDrawn s.drawn) := ekK.same (u := s) rfl hE0
  have hown : (s.setDrawn s.drawn).vm.findClass RX12 = some m.cls := hown0
  refine lv_iload_n hx hb dX12_read_0 rfl (lv_at hl 3 rfl) ?_
  refine lv_iconst (v := 0) hx hb dX12_read_1 (by decide +kernel) ?_
  refine lv_iconst (v := 3) hx hb dX12_read_2 (by decide +kernel) ?_
  refine vp_callSi (W.runS (As := [.int x3, .int 0, .int 3]) (rest := []) ⟨hx, hb, hml, hown, hts⟩ (c_X12_within l D T x3 0 3 0 3 (by decide +kernel) (by decide +kernel)) (va_cwS 3 hts gX12_read_X12_within rfl rfl rfl hs_X12_within ⟨Nat.le_of_ble_eq_true rfl, Nat.le_of_ble_eq_true rfl⟩) (pR_S hP hE [] rfl) rfl rfl hl.1 rfl (lv_room (Nat.le_of_ble_eq_true rfl)) dX12_read_3 ⟨Nat.le_of_ble_eq_true rfl, Nat.le_of_ble_eq_true rfl⟩) (fun r_1 hr_1 => ?_)
  rcases bool_post hr_1 with ⟨c_2, rfl⟩ | ⟨c_2, rfl⟩
  · refine lv_if_ne (tgt := 13) hx hb dX12_read_6 (by decide +kernel) (fun _ => ?_) (fun c9 => absurd c9 (by decide +kernel))
    refine lv_aload_n hx hb dX12_read_13 rfl (lv_at hl 0 rfl) ?_
    refine lv_iload_n hx hb dX12_read_14 rfl (lv_at hl 1 rfl) ?_
    refine lv_iload_n hx hb dX12_read_15 rfl (lv_at hl 2 rfl) ?_
    refine vp_callSi (W.runV (As := [.int x1, .int x2]) (rest := []) ⟨hx, hb, hml, hown, hts⟩ (c_X12_placeFault l D T h0 fs0 h1 (va_up (va_up (va_up (va_up (fun _ => none) 0 (some t0)) 1 (some t1)) 2 (some t2)) 3 (some t3)) t0 [.int (so 0), .int (sn 0), .ref a00, .ref a01, .ref a02, .ref a03] t1 [.int (so 1), .int (sn 1), .ref a10, .ref a11, .ref a12, .ref a13] t2 [.int (so 2), .int (sn 2), .ref a20, .ref a21, .ref a22, .ref a23] t3 [.int (so 3), .int (sn 3), .ref a30, .ref a31, .ref a32, .ref a33] x1 x2 so sn e0_9 rfl rfl rfl rfl rfl rfl rfl rfl rfl rfl rfl rfl (by omega) (by omega) (by omega) (by omega)) (cwV 2 hts gX12_read_X12_placeFault rfl rfl rfl hv_X12_placeFault ⟨Nat.le_of_ble_eq_true rfl, Nat.le_of_ble_eq_true rfl⟩) (pR_V (q := (RX12, TX12, 11)) (ci := 9) (q0 := 0) hP hE rfl rfl [0, 1, 2, 3, 4, 5] rfl) rfl rfl hl.1 rfl (lv_room (Nat.le_of_ble_eq_true rfl)) dX12_read_16 ⟨Nat.le_of_ble_eq_true rfl, Nat.le_of_ble_eq_true rfl⟩) (fun r_3 hr_3 => ?_)
    refine lv_istore (lv' := [(4, .int r_3), (0, .ref h0), (1, .int x1), (2, .int x2), (3, .int x3)]) hx hb dX12_read_19 hl (by decide +kernel) rfl (fun ls hl => ?_)
    refine lv_iload hx hb dX12_read_21 (lv_at hl 0 rfl) ?_
    refine lv_if_eq (tgt := 34) hx hb dX12_read_23 (by decide +kernel) (fun c_4 => ?_) (fun c_4 => ?_)
    · rw [fa_eq] at c_4
      try rw [ti_0] at c_4
      refine lv_aload_n hx hb dX12_read_34 rfl (lv_at hl 1 rfl) ?_
      refine va_get (D := D) (ci := 9) (v := .ref h1) (C := RX12) (T := TX12) (N := 11) hx hb hts in_X12_read_X12 hown hE.1 hP 0 rfl rfl 9 (by decide +kernel) (hts (.fieldLink RX12 65 "ClauseBook" "sheets" "[LClauseBook$Sheet;") (List.mem_of_getElem? (i := 3) rfl)) (fun _ h9 => h9) e0_9 dX12_read_35 ?_
      refine lv_iload_n hx hb dX12_read_38 rfl (lv_at hl 2 rfl) ?_
      have h9f : (0 ≤ x1.toInt ∧ x1.toInt ≤ 3) ∧ 0 ≤ x2.toInt ∧ x2.toInt < 30 := hr_3.1 (by omega)
      rcases in4 (x := x1) (by omega) with rfl | rfl | rfl | rfl
      · have h9t := ti_0
        refine va_aldq hx hb hE.1 hP 1 6 rfl rfl (by unfold vp_in; decide) dX12_read_39 ?_
        refine W.eq (g2 := F0 m 40 ls [.ref t0]) rfl ?_
        refine lv_astore (lv' := [(5, .ref t0), (4, .int r_3), (0, .ref h0), (1, .int 0), (2, .int x2), (3, .int x3)]) hx hb dX12_read_40 hl (by decide +kernel) rfl (fun ls hl => ?_)
        refine lv_iload_n hx hb dX12_read_42 rfl (lv_at hl 5 rfl) ?_
        by_cases k_5 : x3 = 0
        · subst k_5
          refine lv_tableIn (off := 25) (tgt := 68) hx hb dX12_read_43 (by decide +kernel) (by decide +kernel) (by decide +kernel) (by decide +kernel) ?_
          refine lv_aload hx hb dX12_read_68 (lv_at hl 0 rfl) ?_
          refine lv_iload_n hx hb dX12_read_70 rfl (lv_at hl 4 rfl) ?_
          have hFc := va_free (wc := [(t0, .inr (6, [.int (so 0), .int (sn 0), .ref a00, .ref a01, .ref a02, .ref a03])), (a00, .inl (T 0, 30, .inl (si 0))), (a01, .inl (T 1, 30, .inr (.inl (sl 0)))), (a02, .inl (T 2, 30, .inr (.inr (.inl (sf 0))))), (a03, .inl (T 3, 30, .inr (.inr (.inr (.inl (sd 0))))))]) hD hS hA [2, 6, 7, 8, 9] rfl
          refine va_calllD hd0 (va_runV_D (As := [.int x2]) (rest := []) ⟨hx, hb, hml, hown, hts⟩ (c_X9_asItIs l D T _ t0 (so 0) (sn 0) a00 a01 a02 a03 (si 0) (sl 0) (sf 0) (sd 0) x2 (by rw [vp_in_iff]; omega)) (cwV 1 hts gX12_read_X9_asItIs rfl rfl rfl hv_X9_asItIs ⟨Nat.le_of_ble_eq_true rfl, Nat.le_of_ble_eq_true rfl⟩) (pW_V (q := (RX9, TX9, 6)) (ci := 6) (q0 := 2) hP hE hD rfl rfl [2, 6, 7, 8, 9] (by decide +kernel) rfl rfl) rfl rfl hl.1 rfl (lv_room (Nat.le_of_ble_eq_true rfl)) dX12_read_71 ⟨Nat.le_of_ble_eq_true rfl, Nat.le_of_ble_eq_true rfl⟩) hS (fun q _ h => hFc q h) hFc (fun r_6 u_7 t H1 locs ht hvm hr_6 hB hz1 hk1 hS d_8 hd_8 => ?_)
          have hts := dr_words hts0 d_8
          have hE : ekK D T (s.setDrawn d_8) := ekK.same (u := s) rfl hE0
          have hown : (s.setDrawn d_8).vm.findClass RX12 = some m.cls := hown0
          obtain ⟨hP1, hD1⟩ := hB
          rw [ht] at hP1
          obtain ⟨hP, hD⟩ := va_repl [(h0, .inr (9, fs0)), (h1, .inl (T 6, 4, .inr (.inr (.inr (.inr (va_up (va_up (va_up (va_up (fun _ => none) 0 (some t0)) 1 (some t1)) 2 (some t2)) 3 (some t3))))))), (t0, .inr (6, [.int (so 0), .int (sn 0), .ref a00, .ref a01, .ref a02, .ref a03])), (t1, .inr (6, [.int (so 1), .int (sn 1), .ref a10, .ref a11, .ref a12, .ref a13])), (t2, .inr (6, [.int (so 2), .int (sn 2), .ref a20, .ref a21, .ref a22, .ref a23])), (t3, .inr (6, [.int (so 3), .int (sn 3), .ref a30, .ref a31, .ref a32, .ref a33])), (a00, .inl (T 0, 30, .inl (si 0))), (a01, .inl (T 1, 30, .inr (.inl (sl 0)))), (a02, .inl (T 2, 30, .inr (.inr (.inl (sf 0))))), (a03, .inl (T 3, 30, .inr (.inr (.inr (.inl (sd 0)))))), (a10, .inl (T 0, 30, .inl (si 1))), (a11, .inl (T 1, 30, .inr (.inl (sl 1)))), (a12, .inl (T 2, 30, .inr (.inr (.inl (sf 1))))), (a13, .inl (T 3, 30, .inr (.inr (.inr (.inl (sd 1)))))), (a20, .inl (T 0, 30, .inl (si 2))), (a21, .inl (T 1, 30, .inr (.inl (sl 2)))), (a22, .inl (T 2, 30, .inr (.inr (.inl (sf 2))))), (a23, .inl (T 3, 30, .inr (.inr (.inr (.inl (sd 2)))))), (a30, .inl (T 0, 30, .inl (si 3))), (a31, .inl (T 1, 30, .inr (.inl (sl 3)))), (a32, .inl (T 2, 30, .inr (.inr (.inl (sf 3))))), (a33, .inl (T 3, 30, .inr (.inr (.inr (.inl (sd 3))))))] hP hD [2, 6, 7, 8, 9] [2, 6, 7, 8, 9] rfl (by decide +kernel) rfl rfl rfl hk1 hP1
          clear hP1 hD1 hFc
          generalize H1 = H at hP hS ⊢
          refine W.endD hd_8 ?_
          exact W.lret hx hb hr (fun t ht hW => ⟨⟨_, (), rfl, trivial, by rw [ht]; exact hP.sub [0, 1, 2, 3, 4, 5, 6, 7, 8, 9, 10, 11, 12, 13, 14, 15, 16, 17, 18, 19, 20, 21] rfl, hD.sub [0, 1, 2, 3, 4, 5, 6, 7, 8, 9, 10, 11, 12, 13, 14, 15, 16, 17, 18, 19, 20, 21] (by decide +kernel) rfl⟩, hS.F ht⟩) hS.2.2 dX12_read_74
        by_cases k_9 : x3 = 1
        · subst k_9
          refine lv_tableIn (off := 32) (tgt := 75) hx hb dX12_read_43 (by decide +kernel) (by decide +kernel) (by decide +kernel) (by decide +kernel) ?_
          refine lv_aload hx hb dX12_read_75 (lv_at hl 0 rfl) ?_
          refine lv_iload_n hx hb dX12_read_77 rfl (lv_at hl 4 rfl) ?_
          have hFc := va_free (wc := [(t0, .inr (6, [.int (so 0), .int (sn 0), .ref a00, .ref a01, .ref a02, .ref a03])), (a00, .inl (T 0, 30, .inl (si 0))), (a01, .inl (T 1, 30, .inr (.inl (sl 0)))), (a02, .inl (T 2, 30, .inr (.inr (.inl (sf 0))))), (a03, .inl (T 3, 30, .inr (.inr (.inr (.inl (sd 0))))))]) hD hS hA [2, 6, 7, 8, 9] rfl
          refine va_calli (va_runV (As := [.int x2]) (rest := []) ⟨hx, hb, hml, hown, hts⟩ (c_X9_asInt l D T _ t0 (so 0) (sn 0) a00 a01 a02 a03 (si 0) (sl 0) (sf 0) (sd 0) x2 (by rw [vp_in_iff]; omega)) (cwV 1 hts gX12_read_X9_asInt rfl rfl rfl hv_X9_asInt ⟨Nat.le_of_ble_eq_true rfl, Nat.le_of_ble_eq_true rfl⟩) (pW_V (q := (RX9, TX9, 6)) (ci := 6) (q0 := 2) hP hE hD rfl rfl [2, 6, 7, 8, 9] (by decide +kernel) rfl rfl) rfl rfl hl.1 rfl (lv_room (Nat.le_of_ble_eq_true rfl)) dX12_read_78 ⟨Nat.le_of_ble_eq_true rfl, Nat.le_of_ble_eq_true rfl⟩) hS (fun q _ h => hFc q h) hFc (fun r_10 u_11 t H1 locs ht hvm hr_10 hB hz1 hk1 hS => ?_)
          obtain ⟨hP1, hD1⟩ := hB
          rw [ht] at hP1
          obtain ⟨hP, hD⟩ := va_repl [(h0, .inr (9, fs0)), (h1, .inl (T 6, 4, .inr (.inr (.inr (.inr (va_up (va_up (va_up (va_up (fun _ => none) 0 (some t0)) 1 (some t1)) 2 (some t2)) 3 (some t3))))))), (t0, .inr (6, [.int (so 0), .int (sn 0), .ref a00, .ref a01, .ref a02, .ref a03])), (t1, .inr (6, [.int (so 1), .int (sn 1), .ref a10, .ref a11, .ref a12, .ref a13])), (t2, .inr (6, [.int (so 2), .int (sn 2), .ref a20, .ref a21, .ref a22, .ref a23])), (t3, .inr (6, [.int (so 3), .int (sn 3), .ref a30, .ref a31, .ref a32, .ref a33])), (a00, .inl (T 0, 30, .inl (si 0))), (a01, .inl (T 1, 30, .inr (.inl (sl 0)))), (a02, .inl (T 2, 30, .inr (.inr (.inl (sf 0))))), (a03, .inl (T 3, 30, .inr (.inr (.inr (.inl (sd 0)))))), (a10, .inl (T 0, 30, .inl (si 1))), (a11, .inl (T 1, 30, .inr (.inl (sl 1)))), (a12, .inl (T 2, 30, .inr (.inr (.inl (sf 1))))), (a13, .inl (T 3, 30, .inr (.inr (.inr (.inl (sd 1)))))), (a20, .inl (T 0, 30, .inl (si 2))), (a21, .inl (T 1, 30, .inr (.inl (sl 2)))), (a22, .inl (T 2, 30, .inr (.inr (.inl (sf 2))))), (a23, .inl (T 3, 30, .inr (.inr (.inr (.inl (sd 2)))))), (a30, .inl (T 0, 30, .inl (si 3))), (a31, .inl (T 1, 30, .inr (.inl (sl 3)))), (a32, .inl (T 2, 30, .inr (.inr (.inl (sf 3))))), (a33, .inl (T 3, 30, .inr (.inr (.inr (.inl (sd 3))))))] hP hD [2, 6, 7, 8, 9] [2, 6, 7, 8, 9] rfl (by decide +kernel) rfl rfl rfl hk1 hP1
          clear hP1 hD1 hFc
          generalize H1 = H at hP hS ⊢
          refine lv_i2l hx hb dX12_read_81 rfl ?_
          refine W.endD hd0 ?_
          exact W.lret hx hb hr (fun t ht hW => ⟨⟨_, (), rfl, trivial, by rw [ht]; exact hP.sub [0, 1, 2, 3, 4, 5, 6, 7, 8, 9, 10, 11, 12, 13, 14, 15, 16, 17, 18, 19, 20, 21] rfl, hD.sub [0, 1, 2, 3, 4, 5, 6, 7, 8, 9, 10, 11, 12, 13, 14, 15, 16, 17, 18, 19, 20, 21] (by decide +kernel) rfl⟩, hS.F ht⟩) hS.2.2 dX12_read_82
        by_cases k_12 : x3 = 2
        · subst k_12
          refine lv_tableIn (off := 40) (tgt := 83) hx hb dX12_read_43 (by decide +kernel) (by decide +kernel) (by decide +kernel) (by decide +kernel) ?_
          refine lv_aload hx hb dX12_read_83 (lv_at hl 0 rfl) ?_
          refine lv_iload_n hx hb dX12_read_85 rfl (lv_at hl 4 rfl) ?_
          have hFc := va_free (wc := [(t0, .inr (6, [.int (so 0), .int (sn 0), .ref a00, .ref a01, .ref a02, .ref a03])), (a00, .inl (T 0, 30, .inl (si 0))), (a01, .inl (T 1, 30, .inr (.inl (sl 0)))), (a02, .inl (T 2, 30, .inr (.inr (.inl (sf 0))))), (a03, .inl (T 3, 30, .inr (.inr (.inr (.inl (sd 0))))))]) hD hS hA [2, 6, 7, 8, 9] rfl
          refine va_calll (va_runV (As := [.int x2]) (rest := []) ⟨hx, hb, hml, hown, hts⟩ (c_X9_asLong l D T _ t0 (so 0) (sn 0) a00 a01 a02 a03 (si 0) (sl 0) (sf 0) (sd 0) x2 (by rw [vp_in_iff]; omega)) (cwV 1 hts gX12_read_X9_asLong rfl rfl rfl hv_X9_asLong ⟨Nat.le_of_ble_eq_true rfl, Nat.le_of_ble_eq_true rfl⟩) (pW_V (q := (RX9, TX9, 6)) (ci := 6) (q0 := 2) hP hE hD rfl rfl [2, 6, 7, 8, 9] (by decide +kernel) rfl rfl) rfl rfl hl.1 rfl (lv_room (Nat.le_of_ble_eq_true rfl)) dX12_read_86 ⟨Nat.le_of_ble_eq_true rfl, Nat.le_of_ble_eq_true rfl⟩) hS (fun q _ h => hFc q h) hFc (fun r_13 u_14 t H1 locs ht hvm hr_13 hB hz1 hk1 hS => ?_)
          obtain ⟨hP1, hD1⟩ := hB
          rw [ht] at hP1
          obtain ⟨hP, hD⟩ := va_repl [(h0, .inr (9, fs0)), (h1, .inl (T 6, 4, .inr (.inr (.inr (.inr (va_up (va_up (va_up (va_up (fun _ => none) 0 (some t0)) 1 (some t1)) 2 (some t2)) 3 (some t3))))))), (t0, .inr (6, [.int (so 0), .int (sn 0), .ref a00, .ref a01, .ref a02, .ref a03])), (t1, .inr (6, [.int (so 1), .int (sn 1), .ref a10, .ref a11, .ref a12, .ref a13])), (t2, .inr (6, [.int (so 2), .int (sn 2), .ref a20, .ref a21, .ref a22, .ref a23])), (t3, .inr (6, [.int (so 3), .int (sn 3), .ref a30, .ref a31, .ref a32, .ref a33])), (a00, .inl (T 0, 30, .inl (si 0))), (a01, .inl (T 1, 30, .inr (.inl (sl 0)))), (a02, .inl (T 2, 30, .inr (.inr (.inl (sf 0))))), (a03, .inl (T 3, 30, .inr (.inr (.inr (.inl (sd 0)))))), (a10, .inl (T 0, 30, .inl (si 1))), (a11, .inl (T 1, 30, .inr (.inl (sl 1)))), (a12, .inl (T 2, 30, .inr (.inr (.inl (sf 1))))), (a13, .inl (T 3, 30, .inr (.inr (.inr (.inl (sd 1)))))), (a20, .inl (T 0, 30, .inl (si 2))), (a21, .inl (T 1, 30, .inr (.inl (sl 2)))), (a22, .inl (T 2, 30, .inr (.inr (.inl (sf 2))))), (a23, .inl (T 3, 30, .inr (.inr (.inr (.inl (sd 2)))))), (a30, .inl (T 0, 30, .inl (si 3))), (a31, .inl (T 1, 30, .inr (.inl (sl 3)))), (a32, .inl (T 2, 30, .inr (.inr (.inl (sf 3))))), (a33, .inl (T 3, 30, .inr (.inr (.inr (.inl (sd 3))))))] hP hD [2, 6, 7, 8, 9] [2, 6, 7, 8, 9] rfl (by decide +kernel) rfl rfl rfl hk1 hP1
          clear hP1 hD1 hFc
          generalize H1 = H at hP hS ⊢
          refine W.endD hd0 ?_
          exact W.lret hx hb hr (fun t ht hW => ⟨⟨_, (), rfl, trivial, by rw [ht]; exact hP.sub [0, 1, 2, 3, 4, 5, 6, 7, 8, 9, 10, 11, 12, 13, 14, 15, 16, 17, 18, 19, 20, 21] rfl, hD.sub [0, 1, 2, 3, 4, 5, 6, 7, 8, 9, 10, 11, 12, 13, 14, 15, 16, 17, 18, 19, 20, 21] (by decide +kernel) rfl⟩, hS.F ht⟩) hS.2.2 dX12_read_89
        rw [fa_eq] at k_5 k_9 k_12
        try simp only [ti_0, ti_1, ti_2] at k_5 k_9 k_12
        refine lv_tableOut (tgt := 90) hx hb dX12_read_43 (by omega) (by decide +kernel) ?_
        refine lv_aload hx hb dX12_read_90 (lv_at hl 0 rfl) ?_
        refine lv_iload_n hx hb dX12_read_92 rfl (lv_at hl 4 rfl) ?_
        have hFc := va_free (wc := [(t0, .inr (6, [.int (so 0), .int (sn 0), .ref a00, .ref a01, .ref a02, .ref a03])), (a00, .inl (T 0, 30, .inl (si 0))), (a01, .inl (T 1, 30, .inr (.inl (sl 0)))), (a02, .inl (T 2, 30, .inr (.inr (.inl (sf 0))))), (a03, .inl (T 3, 30, .inr (.inr (.inr (.inl (sd 0))))))]) hD hS hA [2, 6, 7, 8, 9] rfl
        refine va_calldD hd0 (va_runV_D (As := [.int x2]) (rest := []) ⟨hx, hb, hml, hown, hts⟩ (c_X9_asDouble l D T _ t0 (so 0) (sn 0) a00 a01 a02 a03 (si 0) (sl 0) (sf 0) (sd 0) x2 (by rw [vp_in_iff]; omega)) (cwV 1 hts gX12_read_X9_asDouble rfl rfl rfl hv_X9_asDouble ⟨Nat.le_of_ble_eq_true rfl, Nat.le_of_ble_eq_true rfl⟩) (pW_V (q := (RX9, TX9, 6)) (ci := 6) (q0 := 2) hP hE hD rfl rfl [2, 6, 7, 8, 9] (by decide +kernel) rfl rfl) rfl rfl hl.1 rfl (lv_room (Nat.le_of_ble_eq_true rfl)) dX12_read_93 ⟨Nat.le_of_ble_eq_true rfl, Nat.le_of_ble_eq_true rfl⟩) hS (fun q _ h => hFc q h) hFc (fun r_15 u_16 t H1 locs ht hvm hr_15 hB hz1 hk1 hS d_17 hd_17 => ?_)
        have hts := dr_words hts0 d_17
        have hE : ekK D T (s.setDrawn d_17) := ekK.same (u := s) rfl hE0
        have hown : (s.setDrawn d_17).vm.findClass RX12 = some m.cls := hown0
        obtain ⟨hP1, hD1⟩ := hB
        rw [ht] at hP1
        obtain ⟨hP, hD⟩ := va_repl [(h0, .inr (9, fs0)), (h1, .inl (T 6, 4, .inr (.inr (.inr (.inr (va_up (va_up (va_up (va_up (fun _ => none) 0 (some t0)) 1 (some t1)) 2 (some t2)) 3 (some t3))))))), (t0, .inr (6, [.int (so 0), .int (sn 0), .ref a00, .ref a01, .ref a02, .ref a03])), (t1, .inr (6, [.int (so 1), .int (sn 1), .ref a10, .ref a11, .ref a12, .ref a13])), (t2, .inr (6, [.int (so 2), .int (sn 2), .ref a20, .ref a21, .ref a22, .ref a23])), (t3, .inr (6, [.int (so 3), .int (sn 3), .ref a30, .ref a31, .ref a32, .ref a33])), (a00, .inl (T 0, 30, .inl (si 0))), (a01, .inl (T 1, 30, .inr (.inl (sl 0)))), (a02, .inl (T 2, 30, .inr (.inr (.inl (sf 0))))), (a03, .inl (T 3, 30, .inr (.inr (.inr (.inl (sd 0)))))), (a10, .inl (T 0, 30, .inl (si 1))), (a11, .inl (T 1, 30, .inr (.inl (sl 1)))), (a12, .inl (T 2, 30, .inr (.inr (.inl (sf 1))))), (a13, .inl (T 3, 30, .inr (.inr (.inr (.inl (sd 1)))))), (a20, .inl (T 0, 30, .inl (si 2))), (a21, .inl (T 1, 30, .inr (.inl (sl 2)))), (a22, .inl (T 2, 30, .inr (.inr (.inl (sf 2))))), (a23, .inl (T 3, 30, .inr (.inr (.inr (.inl (sd 2)))))), (a30, .inl (T 0, 30, .inl (si 3))), (a31, .inl (T 1, 30, .inr (.inl (sl 3)))), (a32, .inl (T 2, 30, .inr (.inr (.inl (sf 3))))), (a33, .inl (T 3, 30, .inr (.inr (.inr (.inl (sd 3))))))] hP hD [2, 6, 7, 8, 9] [2, 6, 7, 8, 9] rfl (by decide +kernel) rfl rfl rfl hk1 hP1
        clear hP1 hD1 hFc
        generalize H1 = H at hP hS ⊢
        refine lv_ldc2d (v := 4619567317775286272) hx hb hown (hts (.constantDouble RX12 340 (4619567317775286272)) (List.mem_of_getElem? (i := 4) rfl)) dX12_read_96 ?_
        have hFc := va_free (wc := []) hD hS hA [] rfl
        refine va_calldD hd_17 (va_runS_D (As := [.double r_15, .double 4619567317775286272]) (rest := []) ⟨hx, hb, hml, hown, hts⟩ (c_X5_remainder l D T _ r_15 4619567317775286272) (va_cwS 2 hts gX12_read_X5_remainder rfl rfl rfl hs_X5_remainder ⟨Nat.le_of_ble_eq_true rfl, Nat.le_of_ble_eq_true rfl⟩) (pW_S hP hE hD [] (by decide +kernel) rfl rfl) rfl rfl hl.1 rfl (lv_room (Nat.le_of_ble_eq_true rfl)) dX12_read_99 ⟨Nat.le_of_ble_eq_true rfl, Nat.le_of_ble_eq_true rfl⟩) hS (fun q _ h => hFc q h) hFc (fun r_18 u_19 t H1 locs ht hvm hr_18 hB hz1 hk1 hS d_20 hd_20 => ?_)
        have hts := dr_words hts0 d_20
        have hE : ekK D T (s.setDrawn d_20) := ekK.same (u := s) rfl hE0
        have hown : (s.setDrawn d_20).vm.findClass RX12 = some m.cls := hown0
        obtain ⟨hP1, hD1⟩ := hB
        rw [ht] at hP1
        obtain ⟨hP, hD⟩ := va_repl [(h0, .inr (9, fs0)), (h1, .inl (T 6, 4, .inr (.inr (.inr (.inr (va_up (va_up (va_up (va_up (fun _ => none) 0 (some t0)) 1 (some t1)) 2 (some t2)) 3 (some t3))))))), (t0, .inr (6, [.int (so 0), .int (sn 0), .ref a00, .ref a01, .ref a02, .ref a03])), (t1, .inr (6, [.int (so 1), .int (sn 1), .ref a10, .ref a11, .ref a12, .ref a13])), (t2, .inr (6, [.int (so 2), .int (sn 2), .ref a20, .ref a21, .ref a22, .ref a23])), (t3, .inr (6, [.int (so 3), .int (sn 3), .ref a30, .ref a31, .ref a32, .ref a33])), (a00, .inl (T 0, 30, .inl (si 0))), (a01, .inl (T 1, 30, .inr (.inl (sl 0)))), (a02, .inl (T 2, 30, .inr (.inr (.inl (sf 0))))), (a03, .inl (T 3, 30, .inr (.inr (.inr (.inl (sd 0)))))), (a10, .inl (T 0, 30, .inl (si 1))), (a11, .inl (T 1, 30, .inr (.inl (sl 1)))), (a12, .inl (T 2, 30, .inr (.inr (.inl (sf 1))))), (a13, .inl (T 3, 30, .inr (.inr (.inr (.inl (sd 1)))))), (a20, .inl (T 0, 30, .inl (si 2))), (a21, .inl (T 1, 30, .inr (.inl (sl 2)))), (a22, .inl (T 2, 30, .inr (.inr (.inl (sf 2))))), (a23, .inl (T 3, 30, .inr (.inr (.inr (.inl (sd 2)))))), (a30, .inl (T 0, 30, .inl (si 3))), (a31, .inl (T 1, 30, .inr (.inl (sl 3)))), (a32, .inl (T 2, 30, .inr (.inr (.inl (sf 3))))), (a33, .inl (T 3, 30, .inr (.inr (.inr (.inl (sd 3))))))] hP hD [] [] rfl (by decide +kernel) rfl rfl rfl hk1 hP1
        clear hP1 hD1 hFc
        generalize H1 = H at hP hS ⊢
        have hFc := va_free (wc := []) hD hS hA [] rfl
        refine va_calllD hd_20 (va_runS_D (As := [.double r_18]) (rest := []) ⟨hx, hb, hml, hown, hts⟩ (c_X5_doubleBits l D T _ r_18) (va_cwS 1 hts gX12_read_X5_doubleBits rfl rfl rfl hs_X5_doubleBits ⟨Nat.le_of_ble_eq_true rfl, Nat.le_of_ble_eq_true rfl⟩) (pW_S hP hE hD [] (by decide +kernel) rfl rfl) rfl rfl hl.1 rfl (lv_room (Nat.le_of_ble_eq_true rfl)) dX12_read_102 ⟨Nat.le_of_ble_eq_true rfl, Nat.le_of_ble_eq_true rfl⟩) hS (fun q _ h => hFc q h) hFc (fun r_21 u_22 t H1 locs ht hvm hr_21 hB hz1 hk1 hS d_23 hd_23 => ?_)
        have hts := dr_words hts0 d_23
        have hE : ekK D T (s.setDrawn d_23) := ekK.same (u := s) rfl hE0
        have hown : (s.setDrawn d_23).vm.findClass RX12 = some m.cls := hown0
        obtain ⟨hP1, hD1⟩ := hB
        rw [ht] at hP1
        obtain ⟨hP, hD⟩ := va_repl [(h0, .inr (9, fs0)), (h1, .inl (T 6, 4, .inr (.inr (.inr (.inr (va_up (va_up (va_up (va_up (fun _ => none) 0 (some t0)) 1 (some t1)) 2 (some t2)) 3 (some t3))))))), (t0, .inr (6, [.int (so 0), .int (sn 0), .ref a00, .ref a01, .ref a02, .ref a03])), (t1, .inr (6, [.int (so 1), .int (sn 1), .ref a10, .ref a11, .ref a12, .ref a13])), (t2, .inr (6, [.int (so 2), .int (sn 2), .ref a20, .ref a21, .ref a22, .ref a23])), (t3, .inr (6, [.int (so 3), .int (sn 3), .ref a30, .ref a31, .ref a32, .ref a33])), (a00, .inl (T 0, 30, .inl (si 0))), (a01, .inl (T 1, 30, .inr (.inl (sl 0)))), (a02, .inl (T 2, 30, .inr (.inr (.inl (sf 0))))), (a03, .inl (T 3, 30, .inr (.inr (.inr (.inl (sd 0)))))), (a10, .inl (T 0, 30, .inl (si 1))), (a11, .inl (T 1, 30, .inr (.inl (sl 1)))), (a12, .inl (T 2, 30, .inr (.inr (.inl (sf 1))))), (a13, .inl (T 3, 30, .inr (.inr (.inr (.inl (sd 1)))))), (a20, .inl (T 0, 30, .inl (si 2))), (a21, .inl (T 1, 30, .inr (.inl (sl 2)))), (a22, .inl (T 2, 30, .inr (.inr (.inl (sf 2))))), (a23, .inl (T 3, 30, .inr (.inr (.inr (.inl (sd 2)))))), (a30, .inl (T 0, 30, .inl (si 3))), (a31, .inl (T 1, 30, .inr (.inl (sl 3)))), (a32, .inl (T 2, 30, .inr (.inr (.inl (sf 3))))), (a33, .inl (T 3, 30, .inr (.inr (.inr (.inl (sd 3))))))] hP hD [] [] rfl (by decide +kernel) rfl rfl rfl hk1 hP1
        clear hP1 hD1 hFc
        generalize H1 = H at hP hS ⊢
        refine W.endD hd_23 ?_
        exact W.lret hx hb hr (fun t ht hW => ⟨⟨_, (), rfl, trivial, by rw [ht]; exact hP.sub [0, 1, 2, 3, 4, 5, 6, 7, 8, 9, 10, 11, 12, 13, 14, 15, 16, 17, 18, 19, 20, 21] rfl, hD.sub [0, 1, 2, 3, 4, 5, 6, 7, 8, 9, 10, 11, 12, 13, 14, 15, 16, 17, 18, 19, 20, 21] (by decide +kernel) rfl⟩, hS.F ht⟩) hS.2.2 dX12_read_105
      · have h9t := ti_1
        refine va_aldq hx hb hE.1 hP 1 6 rfl rfl (by unfold vp_in; decide) dX12_read_39 ?_
        refine W.eq (g2 := F0 m 40 ls [.ref t1]) rfl ?_
        refine lv_astore (lv' := [(5, .ref t1), (4, .int r_3), (0, .ref h0), (1, .int 1), (2, .int x2), (3, .int x3)]) hx hb dX12_read_40 hl (by decide +kernel) rfl (fun ls hl => ?_)
        refine lv_iload_n hx hb dX12_read_42 rfl (lv_at hl 5 rfl) ?_
        by_cases k_24 : x3 = 0
        · subst k_24
          refine lv_tableIn (off := 25) (tgt := 68) hx hb dX12_read_43 (by decide +kernel) (by decide +kernel) (by decide +kernel) (by decide +kernel) ?_
          refine lv_aload hx hb dX12_read_68 (lv_at hl 0 rfl) ?_
          refine lv_iload_n hx hb dX12_read_70 rfl (lv_at hl 4 rfl) ?_
          have hFc := va_free (wc := [(t1, .inr (6, [.int (so 1), .int (sn 1), .ref a10, .ref a11, .ref a12, .ref a13])), (a10, .inl (T 0, 30, .inl (si 1))), (a11, .inl (T 1, 30, .inr (.inl (sl 1)))), (a12, .inl (T 2, 30, .inr (.inr (.inl (sf 1))))), (a13, .inl (T 3, 30, .inr (.inr (.inr (.inl (sd 1))))))]) hD hS hA [3, 10, 11, 12, 13] rfl
          refine va_calllD hd0 (va_runV_D (As := [.int x2]) (rest := []) ⟨hx, hb, hml, hown, hts⟩ (c_X9_asItIs l D T _ t1 (so 1) (sn 1) a10 a11 a12 a13 (si 1) (sl 1) (sf 1) (sd 1) x2 (by rw [vp_in_iff]; omega)) (cwV 1 hts gX12_read_X9_asItIs rfl rfl rfl hv_X9_asItIs ⟨Nat.le_of_ble_eq_true rfl, Nat.le_of_ble_eq_true rfl⟩) (pW_V (q := (RX9, TX9, 6)) (ci := 6) (q0 := 3) hP hE hD rfl rfl [3, 10, 11, 12, 13] (by decide +kernel) rfl rfl) rfl rfl hl.1 rfl (lv_room (Nat.le_of_ble_eq_true rfl)) dX12_read_71 ⟨Nat.le_of_ble_eq_true rfl, Nat.le_of_ble_eq_true rfl⟩) hS (fun q _ h => hFc q h) hFc (fun r_25 u_26 t H1 locs ht hvm hr_25 hB hz1 hk1 hS d_27 hd_27 => ?_)
          have hts := dr_words hts0 d_27
          have hE : ekK D T (s.setDrawn d_27) := ekK.same (u := s) rfl hE0
          have hown : (s.setDrawn d_27).vm.findClass RX12 = some m.cls := hown0
          obtain ⟨hP1, hD1⟩ := hB
          rw [ht] at hP1
          obtain ⟨hP, hD⟩ := va_repl [(h0, .inr (9, fs0)), (h1, .inl (T 6, 4, .inr (.inr (.inr (.inr (va_up (va_up (va_up (va_up (fun _ => none) 0 (some t0)) 1 (some t1)) 2 (some t2)) 3 (some t3))))))), (t0, .inr (6, [.int (so 0), .int (sn 0), .ref a00, .ref a01, .ref a02, .ref a03])), (t1, .inr (6, [.int (so 1), .int (sn 1), .ref a10, .ref a11, .ref a12, .ref a13])), (t2, .inr (6, [.int (so 2), .int (sn 2), .ref a20, .ref a21, .ref a22, .ref a23])), (t3, .inr (6, [.int (so 3), .int (sn 3), .ref a30, .ref a31, .ref a32, .ref a33])), (a00, .inl (T 0, 30, .inl (si 0))), (a01, .inl (T 1, 30, .inr (.inl (sl 0)))), (a02, .inl (T 2, 30, .inr (.inr (.inl (sf 0))))), (a03, .inl (T 3, 30, .inr (.inr (.inr (.inl (sd 0)))))), (a10, .inl (T 0, 30, .inl (si 1))), (a11, .inl (T 1, 30, .inr (.inl (sl 1)))), (a12, .inl (T 2, 30, .inr (.inr (.inl (sf 1))))), (a13, .inl (T 3, 30, .inr (.inr (.inr (.inl (sd 1)))))), (a20, .inl (T 0, 30, .inl (si 2))), (a21, .inl (T 1, 30, .inr (.inl (sl 2)))), (a22, .inl (T 2, 30, .inr (.inr (.inl (sf 2))))), (a23, .inl (T 3, 30, .inr (.inr (.inr (.inl (sd 2)))))), (a30, .inl (T 0, 30, .inl (si 3))), (a31, .inl (T 1, 30, .inr (.inl (sl 3)))), (a32, .inl (T 2, 30, .inr (.inr (.inl (sf 3))))), (a33, .inl (T 3, 30, .inr (.inr (.inr (.inl (sd 3))))))] hP hD [3, 10, 11, 12, 13] [3, 10, 11, 12, 13] rfl (by decide +kernel) rfl rfl rfl hk1 hP1
          clear hP1 hD1 hFc
          generalize H1 = H at hP hS ⊢
          refine W.endD hd_27 ?_
          exact W.lret hx hb hr (fun t ht hW => ⟨⟨_, (), rfl, trivial, by rw [ht]; exact hP.sub [0, 1, 2, 3, 4, 5, 6, 7, 8, 9, 10, 11, 12, 13, 14, 15, 16, 17, 18, 19, 20, 21] rfl, hD.sub [0, 1, 2, 3, 4, 5, 6, 7, 8, 9, 10, 11, 12, 13, 14, 15, 16, 17, 18, 19, 20, 21] (by decide +kernel) rfl⟩, hS.F ht⟩) hS.2.2 dX12_read_74
        by_cases k_28 : x3 = 1
        · subst k_28
          refine lv_tableIn (off := 32) (tgt := 75) hx hb dX12_read_43 (by decide +kernel) (by decide +kernel) (by decide +kernel) (by decide +kernel) ?_
          refine lv_aload hx hb dX12_read_75 (lv_at hl 0 rfl) ?_
          refine lv_iload_n hx hb dX12_read_77 rfl (lv_at hl 4 rfl) ?_
          have hFc := va_free (wc := [(t1, .inr (6, [.int (so 1), .int (sn 1), .ref a10, .ref a11, .ref a12, .ref a13])), (a10, .inl (T 0, 30, .inl (si 1))), (a11, .inl (T 1, 30, .inr (.inl (sl 1)))), (a12, .inl (T 2, 30, .inr (.inr (.inl (sf 1))))), (a13, .inl (T 3, 30, .inr (.inr (.inr (.inl (sd 1))))))]) hD hS hA [3, 10, 11, 12, 13] rfl
          refine va_calli (va_runV (As := [.int x2]) (rest := []) ⟨hx, hb, hml, hown, hts⟩ (c_X9_asInt l D T _ t1 (so 1) (sn 1) a10 a11 a12 a13 (si 1) (sl 1) (sf 1) (sd 1) x2 (by rw [vp_in_iff]; omega)) (cwV 1 hts gX12_read_X9_asInt rfl rfl rfl hv_X9_asInt ⟨Nat.le_of_ble_eq_true rfl, Nat.le_of_ble_eq_true rfl⟩) (pW_V (q := (RX9, TX9, 6)) (ci := 6) (q0 := 3) hP hE hD rfl rfl [3, 10, 11, 12, 13] (by decide +kernel) rfl rfl) rfl rfl hl.1 rfl (lv_room (Nat.le_of_ble_eq_true rfl)) dX12_read_78 ⟨Nat.le_of_ble_eq_true rfl, Nat.le_of_ble_eq_true rfl⟩) hS (fun q _ h => hFc q h) hFc (fun r_29 u_30 t H1 locs ht hvm hr_29 hB hz1 hk1 hS => ?_)
          obtain ⟨hP1, hD1⟩ := hB
          rw [ht] at hP1
          obtain ⟨hP, hD⟩ := va_repl [(h0, .inr (9, fs0)), (h1, .inl (T 6, 4, .inr (.inr (.inr (.inr (va_up (va_up (va_up (va_up (fun _ => none) 0 (some t0)) 1 (some t1)) 2 (some t2)) 3 (some t3))))))), (t0, .inr (6, [.int (so 0), .int (sn 0), .ref a00, .ref a01, .ref a02, .ref a03])), (t1, .inr (6, [.int (so 1), .int (sn 1), .ref a10, .ref a11, .ref a12, .ref a13])), (t2, .inr (6, [.int (so 2), .int (sn 2), .ref a20, .ref a21, .ref a22, .ref a23])), (t3, .inr (6, [.int (so 3), .int (sn 3), .ref a30, .ref a31, .ref a32, .ref a33])), (a00, .inl (T 0, 30, .inl (si 0))), (a01, .inl (T 1, 30, .inr (.inl (sl 0)))), (a02, .inl (T 2, 30, .inr (.inr (.inl (sf 0))))), (a03, .inl (T 3, 30, .inr (.inr (.inr (.inl (sd 0)))))), (a10, .inl (T 0, 30, .inl (si 1))), (a11, .inl (T 1, 30, .inr (.inl (sl 1)))), (a12, .inl (T 2, 30, .inr (.inr (.inl (sf 1))))), (a13, .inl (T 3, 30, .inr (.inr (.inr (.inl (sd 1)))))), (a20, .inl (T 0, 30, .inl (si 2))), (a21, .inl (T 1, 30, .inr (.inl (sl 2)))), (a22, .inl (T 2, 30, .inr (.inr (.inl (sf 2))))), (a23, .inl (T 3, 30, .inr (.inr (.inr (.inl (sd 2)))))), (a30, .inl (T 0, 30, .inl (si 3))), (a31, .inl (T 1, 30, .inr (.inl (sl 3)))), (a32, .inl (T 2, 30, .inr (.inr (.inl (sf 3))))), (a33, .inl (T 3, 30, .inr (.inr (.inr (.inl (sd 3))))))] hP hD [3, 10, 11, 12, 13] [3, 10, 11, 12, 13] rfl (by decide +kernel) rfl rfl rfl hk1 hP1
          clear hP1 hD1 hFc
          generalize H1 = H at hP hS ⊢
          refine lv_i2l hx hb dX12_read_81 rfl ?_
          refine W.endD hd0 ?_
          exact W.lret hx hb hr (fun t ht hW => ⟨⟨_, (), rfl, trivial, by rw [ht]; exact hP.sub [0, 1, 2, 3, 4, 5, 6, 7, 8, 9, 10, 11, 12, 13, 14, 15, 16, 17, 18, 19, 20, 21] rfl, hD.sub [0, 1, 2, 3, 4, 5, 6, 7, 8, 9, 10, 11, 12, 13, 14, 15, 16, 17, 18, 19, 20, 21] (by decide +kernel) rfl⟩, hS.F ht⟩) hS.2.2 dX12_read_82
        by_cases k_31 : x3 = 2
        · subst k_31
          refine lv_tableIn (off := 40) (tgt := 83) hx hb dX12_read_43 (by decide +kernel) (by decide +kernel) (by decide +kernel) (by decide +kernel) ?_
          refine lv_aload hx hb dX12_read_83 (lv_at hl 0 rfl) ?_
          refine lv_iload_n hx hb dX12_read_85 rfl (lv_at hl 4 rfl) ?_
          have hFc := va_free (wc := [(t1, .inr (6, [.int (so 1), .int (sn 1), .ref a10, .ref a11, .ref a12, .ref a13])), (a10, .inl (T 0, 30, .inl (si 1))), (a11, .inl (T 1, 30, .inr (.inl (sl 1)))), (a12, .inl (T 2, 30, .inr (.inr (.inl (sf 1))))), (a13, .inl (T 3, 30, .inr (.inr (.inr (.inl (sd 1))))))]) hD hS hA [3, 10, 11, 12, 13] rfl
          refine va_calll (va_runV (As := [.int x2]) (rest := []) ⟨hx, hb, hml, hown, hts⟩ (c_X9_asLong l D T _ t1 (so 1) (sn 1) a10 a11 a12 a13 (si 1) (sl 1) (sf 1) (sd 1) x2 (by rw [vp_in_iff]; omega)) (cwV 1 hts gX12_read_X9_asLong rfl rfl rfl hv_X9_asLong ⟨Nat.le_of_ble_eq_true rfl, Nat.le_of_ble_eq_true rfl⟩) (pW_V (q := (RX9, TX9, 6)) (ci := 6) (q0 := 3) hP hE hD rfl rfl [3, 10, 11, 12, 13] (by decide +kernel) rfl rfl) rfl rfl hl.1 rfl (lv_room (Nat.le_of_ble_eq_true rfl)) dX12_read_86 ⟨Nat.le_of_ble_eq_true rfl, Nat.le_of_ble_eq_true rfl⟩) hS (fun q _ h => hFc q h) hFc (fun r_32 u_33 t H1 locs ht hvm hr_32 hB hz1 hk1 hS => ?_)
          obtain ⟨hP1, hD1⟩ := hB
          rw [ht] at hP1
          obtain ⟨hP, hD⟩ := va_repl [(h0, .inr (9, fs0)), (h1, .inl (T 6, 4, .inr (.inr (.inr (.inr (va_up (va_up (va_up (va_up (fun _ => none) 0 (some t0)) 1 (some t1)) 2 (some t2)) 3 (some t3))))))), (t0, .inr (6, [.int (so 0), .int (sn 0), .ref a00, .ref a01, .ref a02, .ref a03])), (t1, .inr (6, [.int (so 1), .int (sn 1), .ref a10, .ref a11, .ref a12, .ref a13])), (t2, .inr (6, [.int (so 2), .int (sn 2), .ref a20, .ref a21, .ref a22, .ref a23])), (t3, .inr (6, [.int (so 3), .int (sn 3), .ref a30, .ref a31, .ref a32, .ref a33])), (a00, .inl (T 0, 30, .inl (si 0))), (a01, .inl (T 1, 30, .inr (.inl (sl 0)))), (a02, .inl (T 2, 30, .inr (.inr (.inl (sf 0))))), (a03, .inl (T 3, 30, .inr (.inr (.inr (.inl (sd 0)))))), (a10, .inl (T 0, 30, .inl (si 1))), (a11, .inl (T 1, 30, .inr (.inl (sl 1)))), (a12, .inl (T 2, 30, .inr (.inr (.inl (sf 1))))), (a13, .inl (T 3, 30, .inr (.inr (.inr (.inl (sd 1)))))), (a20, .inl (T 0, 30, .inl (si 2))), (a21, .inl (T 1, 30, .inr (.inl (sl 2)))), (a22, .inl (T 2, 30, .inr (.inr (.inl (sf 2))))), (a23, .inl (T 3, 30, .inr (.inr (.inr (.inl (sd 2)))))), (a30, .inl (T 0, 30, .inl (si 3))), (a31, .inl (T 1, 30, .inr (.inl (sl 3)))), (a32, .inl (T 2, 30, .inr (.inr (.inl (sf 3))))), (a33, .inl (T 3, 30, .inr (.inr (.inr (.inl (sd 3))))))] hP hD [3, 10, 11, 12, 13] [3, 10, 11, 12, 13] rfl (by decide +kernel) rfl rfl rfl hk1 hP1
          clear hP1 hD1 hFc
          generalize H1 = H at hP hS ⊢
          refine W.endD hd0 ?_
          exact W.lret hx hb hr (fun t ht hW => ⟨⟨_, (), rfl, trivial, by rw [ht]; exact hP.sub [0, 1, 2, 3, 4, 5, 6, 7, 8, 9, 10, 11, 12, 13, 14, 15, 16, 17, 18, 19, 20, 21] rfl, hD.sub [0, 1, 2, 3, 4, 5, 6, 7, 8, 9, 10, 11, 12, 13, 14, 15, 16, 17, 18, 19, 20, 21] (by decide +kernel) rfl⟩, hS.F ht⟩) hS.2.2 dX12_read_89
        rw [fa_eq] at k_24 k_28 k_31
        try simp only [ti_0, ti_1, ti_2] at k_24 k_28 k_31
        refine lv_tableOut (tgt := 90) hx hb dX12_read_43 (by omega) (by decide +kernel) ?_
        refine lv_aload hx hb dX12_read_90 (lv_at hl 0 rfl) ?_
        refine lv_iload_n hx hb dX12_read_92 rfl (lv_at hl 4 rfl) ?_
        have hFc := va_free (wc := [(t1, .inr (6, [.int (so 1), .int (sn 1), .ref a10, .ref a11, .ref a12, .ref a13])), (a10, .inl (T 0, 30, .inl (si 1))), (a11, .inl (T 1, 30, .inr (.inl (sl 1)))), (a12, .inl (T 2, 30, .inr (.inr (.inl (sf 1))))), (a13, .inl (T 3, 30, .inr (.inr (.inr (.inl (sd 1))))))]) hD hS hA [3, 10, 11, 12, 13] rfl
        refine va_calldD hd0 (va_runV_D (As := [.int x2]) (rest := []) ⟨hx, hb, hml, hown, hts⟩ (c_X9_asDouble l D T _ t1 (so 1) (sn 1) a10 a11 a12 a13 (si 1) (sl 1) (sf 1) (sd 1) x2 (by rw [vp_in_iff]; omega)) (cwV 1 hts gX12_read_X9_asDouble rfl rfl rfl hv_X9_asDouble ⟨Nat.le_of_ble_eq_true rfl, Nat.le_of_ble_eq_true rfl⟩) (pW_V (q := (RX9, TX9, 6)) (ci := 6) (q0 := 3) hP hE hD rfl rfl [3, 10, 11, 12, 13] (by decide +kernel) rfl rfl) rfl rfl hl.1 rfl (lv_room (Nat.le_of_ble_eq_true rfl)) dX12_read_93 ⟨Nat.le_of_ble_eq_true rfl, Nat.le_of_ble_eq_true rfl⟩) hS (fun q _ h => hFc q h) hFc (fun r_34 u_35 t H1 locs ht hvm hr_34 hB hz1 hk1 hS d_36 hd_36 => ?_)
        have hts := dr_words hts0 d_36
        have hE : ekK D T (s.setDrawn d_36) := ekK.same (u := s) rfl hE0
        have hown : (s.setDrawn d_36).vm.findClass RX12 = some m.cls := hown0
        obtain ⟨hP1, hD1⟩ := hB
        rw [ht] at hP1
        obtain ⟨hP, hD⟩ := va_repl [(h0, .inr (9, fs0)), (h1, .inl (T 6, 4, .inr (.inr (.inr (.inr (va_up (va_up (va_up (va_up (fun _ => none) 0 (some t0)) 1 (some t1)) 2 (some t2)) 3 (some t3))))))), (t0, .inr (6, [.int (so 0), .int (sn 0), .ref a00, .ref a01, .ref a02, .ref a03])), (t1, .inr (6, [.int (so 1), .int (sn 1), .ref a10, .ref a11, .ref a12, .ref a13])), (t2, .inr (6, [.int (so 2), .int (sn 2), .ref a20, .ref a21, .ref a22, .ref a23])), (t3, .inr (6, [.int (so 3), .int (sn 3), .ref a30, .ref a31, .ref a32, .ref a33])), (a00, .inl (T 0, 30, .inl (si 0))), (a01, .inl (T 1, 30, .inr (.inl (sl 0)))), (a02, .inl (T 2, 30, .inr (.inr (.inl (sf 0))))), (a03, .inl (T 3, 30, .inr (.inr (.inr (.inl (sd 0)))))), (a10, .inl (T 0, 30, .inl (si 1))), (a11, .inl (T 1, 30, .inr (.inl (sl 1)))), (a12, .inl (T 2, 30, .inr (.inr (.inl (sf 1))))), (a13, .inl (T 3, 30, .inr (.inr (.inr (.inl (sd 1)))))), (a20, .inl (T 0, 30, .inl (si 2))), (a21, .inl (T 1, 30, .inr (.inl (sl 2)))), (a22, .inl (T 2, 30, .inr (.inr (.inl (sf 2))))), (a23, .inl (T 3, 30, .inr (.inr (.inr (.inl (sd 2)))))), (a30, .inl (T 0, 30, .inl (si 3))), (a31, .inl (T 1, 30, .inr (.inl (sl 3)))), (a32, .inl (T 2, 30, .inr (.inr (.inl (sf 3))))), (a33, .inl (T 3, 30, .inr (.inr (.inr (.inl (sd 3))))))] hP hD [3, 10, 11, 12, 13] [3, 10, 11, 12, 13] rfl (by decide +kernel) rfl rfl rfl hk1 hP1
        clear hP1 hD1 hFc
        generalize H1 = H at hP hS ⊢
        refine lv_ldc2d (v := 4619567317775286272) hx hb hown (hts (.constantDouble RX12 340 (4619567317775286272)) (List.mem_of_getElem? (i := 4) rfl)) dX12_read_96 ?_
        have hFc := va_free (wc := []) hD hS hA [] rfl
        refine va_calldD hd_36 (va_runS_D (As := [.double r_34, .double 4619567317775286272]) (rest := []) ⟨hx, hb, hml, hown, hts⟩ (c_X5_remainder l D T _ r_34 4619567317775286272) (va_cwS 2 hts gX12_read_X5_remainder rfl rfl rfl hs_X5_remainder ⟨Nat.le_of_ble_eq_true rfl, Nat.le_of_ble_eq_true rfl⟩) (pW_S hP hE hD [] (by decide +kernel) rfl rfl) rfl rfl hl.1 rfl (lv_room (Nat.le_of_ble_eq_true rfl)) dX12_read_99 ⟨Nat.le_of_ble_eq_true rfl, Nat.le_of_ble_eq_true rfl⟩) hS (fun q _ h => hFc q h) hFc (fun r_37 u_38 t H1 locs ht hvm hr_37 hB hz1 hk1 hS d_39 hd_39 => ?_)
        have hts := dr_words hts0 d_39
        have hE : ekK D T (s.setDrawn d_39) := ekK.same (u := s) rfl hE0
        have hown : (s.setDrawn d_39).vm.findClass RX12 = some m.cls := hown0
        obtain ⟨hP1, hD1⟩ := hB
        rw [ht] at hP1
        obtain ⟨hP, hD⟩ := va_repl [(h0, .inr (9, fs0)), (h1, .inl (T 6, 4, .inr (.inr (.inr (.inr (va_up (va_up (va_up (va_up (fun _ => none) 0 (some t0)) 1 (some t1)) 2 (some t2)) 3 (some t3))))))), (t0, .inr (6, [.int (so 0), .int (sn 0), .ref a00, .ref a01, .ref a02, .ref a03])), (t1, .inr (6, [.int (so 1), .int (sn 1), .ref a10, .ref a11, .ref a12, .ref a13])), (t2, .inr (6, [.int (so 2), .int (sn 2), .ref a20, .ref a21, .ref a22, .ref a23])), (t3, .inr (6, [.int (so 3), .int (sn 3), .ref a30, .ref a31, .ref a32, .ref a33])), (a00, .inl (T 0, 30, .inl (si 0))), (a01, .inl (T 1, 30, .inr (.inl (sl 0)))), (a02, .inl (T 2, 30, .inr (.inr (.inl (sf 0))))), (a03, .inl (T 3, 30, .inr (.inr (.inr (.inl (sd 0)))))), (a10, .inl (T 0, 30, .inl (si 1))), (a11, .inl (T 1, 30, .inr (.inl (sl 1)))), (a12, .inl (T 2, 30, .inr (.inr (.inl (sf 1))))), (a13, .inl (T 3, 30, .inr (.inr (.inr (.inl (sd 1)))))), (a20, .inl (T 0, 30, .inl (si 2))), (a21, .inl (T 1, 30, .inr (.inl (sl 2)))), (a22, .inl (T 2, 30, .inr (.inr (.inl (sf 2))))), (a23, .inl (T 3, 30, .inr (.inr (.inr (.inl (sd 2)))))), (a30, .inl (T 0, 30, .inl (si 3))), (a31, .inl (T 1, 30, .inr (.inl (sl 3)))), (a32, .inl (T 2, 30, .inr (.inr (.inl (sf 3))))), (a33, .inl (T 3, 30, .inr (.inr (.inr (.inl (sd 3))))))] hP hD [] [] rfl (by decide +kernel) rfl rfl rfl hk1 hP1
        clear hP1 hD1 hFc
        generalize H1 = H at hP hS ⊢
        have hFc := va_free (wc := []) hD hS hA [] rfl
        refine va_calllD hd_39 (va_runS_D (As := [.double r_37]) (rest := []) ⟨hx, hb, hml, hown, hts⟩ (c_X5_doubleBits l D T _ r_37) (va_cwS 1 hts gX12_read_X5_doubleBits rfl rfl rfl hs_X5_doubleBits ⟨Nat.le_of_ble_eq_true rfl, Nat.le_of_ble_eq_true rfl⟩) (pW_S hP hE hD [] (by decide +kernel) rfl rfl) rfl rfl hl.1 rfl (lv_room (Nat.le_of_ble_eq_true rfl)) dX12_read_102 ⟨Nat.le_of_ble_eq_true rfl, Nat.le_of_ble_eq_true rfl⟩) hS (fun q _ h => hFc q h) hFc (fun r_40 u_41 t H1 locs ht hvm hr_40 hB hz1 hk1 hS d_42 hd_42 => ?_)
        have hts := dr_words hts0 d_42
        have hE : ekK D T (s.setDrawn d_42) := ekK.same (u := s) rfl hE0
        have hown : (s.setDrawn d_42).vm.findClass RX12 = some m.cls := hown0
        obtain ⟨hP1, hD1⟩ := hB
        rw [ht] at hP1
        obtain ⟨hP, hD⟩ := va_repl [(h0, .inr (9, fs0)), (h1, .inl (T 6, 4, .inr (.inr (.inr (.inr (va_up (va_up (va_up (va_up (fun _ => none) 0 (some t0)) 1 (some t1)) 2 (some t2)) 3 (some t3))))))), (t0, .inr (6, [.int (so 0), .int (sn 0), .ref a00, .ref a01, .ref a02, .ref a03])), (t1, .inr (6, [.int (so 1), .int (sn 1), .ref a10, .ref a11, .ref a12, .ref a13])), (t2, .inr (6, [.int (so 2), .int (sn 2), .ref a20, .ref a21, .ref a22, .ref a23])), (t3, .inr (6, [.int (so 3), .int (sn 3), .ref a30, .ref a31, .ref a32, .ref a33])), (a00, .inl (T 0, 30, .inl (si 0))), (a01, .inl (T 1, 30, .inr (.inl (sl 0)))), (a02, .inl (T 2, 30, .inr (.inr (.inl (sf 0))))), (a03, .inl (T 3, 30, .inr (.inr (.inr (.inl (sd 0)))))), (a10, .inl (T 0, 30, .inl (si 1))), (a11, .inl (T 1, 30, .inr (.inl (sl 1)))), (a12, .inl (T 2, 30, .inr (.inr (.inl (sf 1))))), (a13, .inl (T 3, 30, .inr (.inr (.inr (.inl (sd 1)))))), (a20, .inl (T 0, 30, .inl (si 2))), (a21, .inl (T 1, 30, .inr (.inl (sl 2)))), (a22, .inl (T 2, 30, .inr (.inr (.inl (sf 2))))), (a23, .inl (T 3, 30, .inr (.inr (.inr (.inl (sd 2)))))), (a30, .inl (T 0, 30, .inl (si 3))), (a31, .inl (T 1, 30, .inr (.inl (sl 3)))), (a32, .inl (T 2, 30, .inr (.inr (.inl (sf 3))))), (a33, .inl (T 3, 30, .inr (.inr (.inr (.inl (sd 3))))))] hP hD [] [] rfl (by decide +kernel) rfl rfl rfl hk1 hP1
        clear hP1 hD1 hFc
        generalize H1 = H at hP hS ⊢
        refine W.endD hd_42 ?_
        exact W.lret hx hb hr (fun t ht hW => ⟨⟨_, (), rfl, trivial, by rw [ht]; exact hP.sub [0, 1, 2, 3, 4, 5, 6, 7, 8, 9, 10, 11, 12, 13, 14, 15, 16, 17, 18, 19, 20, 21] rfl, hD.sub [0, 1, 2, 3, 4, 5, 6, 7, 8, 9, 10, 11, 12, 13, 14, 15, 16, 17, 18, 19, 20, 21] (by decide +kernel) rfl⟩, hS.F ht⟩) hS.2.2 dX12_read_105
      · have h9t := ti_2
        refine va_aldq hx hb hE.1 hP 1 6 rfl rfl (by unfold vp_in; decide) dX12_read_39 ?_
        refine W.eq (g2 := F0 m 40 ls [.ref t2]) rfl ?_
        refine lv_astore (lv' := [(5, .ref t2), (4, .int r_3), (0, .ref h0), (1, .int 2), (2, .int x2), (3, .int x3)]) hx hb dX12_read_40 hl (by decide +kernel) rfl (fun ls hl => ?_)
        refine lv_iload_n hx hb dX12_read_42 rfl (lv_at hl 5 rfl) ?_
        by_cases k_43 : x3 = 0
        · subst k_43
          refine lv_tableIn (off := 25) (tgt := 68) hx hb dX12_read_43 (by decide +kernel) (by decide +kernel) (by decide +kernel) (by decide +kernel) ?_
          refine lv_aload hx hb dX12_read_68 (lv_at hl 0 rfl) ?_
          refine lv_iload_n hx hb dX12_read_70 rfl (lv_at hl 4 rfl) ?_
          have hFc := va_free (wc := [(t2, .inr (6, [.int (so 2), .int (sn 2), .ref a20, .ref a21, .ref a22, .ref a23])), (a20, .inl (T 0, 30, .inl (si 2))), (a21, .inl (T 1, 30, .inr (.inl (sl 2)))), (a22, .inl (T 2, 30, .inr (.inr (.inl (sf 2))))), (a23, .inl (T 3, 30, .inr (.inr (.inr (.inl (sd 2))))))]) hD hS hA [4, 14, 15, 16, 17] rfl
          refine va_calllD hd0 (va_runV_D (As := [.int x2]) (rest := []) ⟨hx, hb, hml, hown, hts⟩ (c_X9_asItIs l D T _ t2 (so 2) (sn 2) a20 a21 a22 a23 (si 2) (sl 2) (sf 2) (sd 2) x2 (by rw [vp_in_iff]; omega)) (cwV 1 hts gX12_read_X9_asItIs rfl rfl rfl hv_X9_asItIs ⟨Nat.le_of_ble_eq_true rfl, Nat.le_of_ble_eq_true rfl⟩) (pW_V (q := (RX9, TX9, 6)) (ci := 6) (q0 := 4) hP hE hD rfl rfl [4, 14, 15, 16, 17] (by decide +kernel) rfl rfl) rfl rfl hl.1 rfl (lv_room (Nat.le_of_ble_eq_true rfl)) dX12_read_71 ⟨Nat.le_of_ble_eq_true rfl, Nat.le_of_ble_eq_true rfl⟩) hS (fun q _ h => hFc q h) hFc (fun r_44 u_45 t H1 locs ht hvm hr_44 hB hz1 hk1 hS d_46 hd_46 => ?_)
          have hts := dr_words hts0 d_46
          have hE : ekK D T (s.setDrawn d_46) := ekK.same (u := s) rfl hE0
          have hown : (s.setDrawn d_46).vm.findClass RX12 = some m.cls := hown0
          obtain ⟨hP1, hD1⟩ := hB
          rw [ht] at hP1
          obtain ⟨hP, hD⟩ := va_repl [(h0, .inr (9, fs0)), (h1, .inl (T 6, 4, .inr (.inr (.inr (.inr (va_up (va_up (va_up (va_up (fun _ => none) 0 (some t0)) 1 (some t1)) 2 (some t2)) 3 (some t3))))))), (t0, .inr (6, [.int (so 0), .int (sn 0), .ref a00, .ref a01, .ref a02, .ref a03])), (t1, .inr (6, [.int (so 1), .int (sn 1), .ref a10, .ref a11, .ref a12, .ref a13])), (t2, .inr (6, [.int (so 2), .int (sn 2), .ref a20, .ref a21, .ref a22, .ref a23])), (t3, .inr (6, [.int (so 3), .int (sn 3), .ref a30, .ref a31, .ref a32, .ref a33])), (a00, .inl (T 0, 30, .inl (si 0))), (a01, .inl (T 1, 30, .inr (.inl (sl 0)))), (a02, .inl (T 2, 30, .inr (.inr (.inl (sf 0))))), (a03, .inl (T 3, 30, .inr (.inr (.inr (.inl (sd 0)))))), (a10, .inl (T 0, 30, .inl (si 1))), (a11, .inl (T 1, 30, .inr (.inl (sl 1)))), (a12, .inl (T 2, 30, .inr (.inr (.inl (sf 1))))), (a13, .inl (T 3, 30, .inr (.inr (.inr (.inl (sd 1)))))), (a20, .inl (T 0, 30, .inl (si 2))), (a21, .inl (T 1, 30, .inr (.inl (sl 2)))), (a22, .inl (T 2, 30, .inr (.inr (.inl (sf 2))))), (a23, .inl (T 3, 30, .inr (.inr (.inr (.inl (sd 2)))))), (a30, .inl (T 0, 30, .inl (si 3))), (a31, .inl (T 1, 30, .inr (.inl (sl 3)))), (a32, .inl (T 2, 30, .inr (.inr (.inl (sf 3))))), (a33, .inl (T 3, 30, .inr (.inr (.inr (.inl (sd 3))))))] hP hD [4, 14, 15, 16, 17] [4, 14, 15, 16, 17] rfl (by decide +kernel) rfl rfl rfl hk1 hP1
          clear hP1 hD1 hFc
          generalize H1 = H at hP hS ⊢
          refine W.endD hd_46 ?_
          exact W.lret hx hb hr (fun t ht hW => ⟨⟨_, (), rfl, trivial, by rw [ht]; exact hP.sub [0, 1, 2, 3, 4, 5, 6, 7, 8, 9, 10, 11, 12, 13, 14, 15, 16, 17, 18, 19, 20, 21] rfl, hD.sub [0, 1, 2, 3, 4, 5, 6, 7, 8, 9, 10, 11, 12, 13, 14, 15, 16, 17, 18, 19, 20, 21] (by decide +kernel) rfl⟩, hS.F ht⟩) hS.2.2 dX12_read_74
        by_cases k_47 : x3 = 1
        · subst k_47
          refine lv_tableIn (off := 32) (tgt := 75) hx hb dX12_read_43 (by decide +kernel) (by decide +kernel) (by decide +kernel) (by decide +kernel) ?_
          refine lv_aload hx hb dX12_read_75 (lv_at hl 0 rfl) ?_
          refine lv_iload_n hx hb dX12_read_77 rfl (lv_at hl 4 rfl) ?_
          have hFc := va_free (wc := [(t2, .inr (6, [.int (so 2), .int (sn 2), .ref a20, .ref a21, .ref a22, .ref a23])), (a20, .inl (T 0, 30, .inl (si 2))), (a21, .inl (T 1, 30, .inr (.inl (sl 2)))), (a22, .inl (T 2, 30, .inr (.inr (.inl (sf 2))))), (a23, .inl (T 3, 30, .inr (.inr (.inr (.inl (sd 2))))))]) hD hS hA [4, 14, 15, 16, 17] rfl
          refine va_calli (va_runV (As := [.int x2]) (rest := []) ⟨hx, hb, hml, hown, hts⟩ (c_X9_asInt l D T _ t2 (so 2) (sn 2) a20 a21 a22 a23 (si 2) (sl 2) (sf 2) (sd 2) x2 (by rw [vp_in_iff]; omega)) (cwV 1 hts gX12_read_X9_asInt rfl rfl rfl hv_X9_asInt ⟨Nat.le_of_ble_eq_true rfl, Nat.le_of_ble_eq_true rfl⟩) (pW_V (q := (RX9, TX9, 6)) (ci := 6) (q0 := 4) hP hE hD rfl rfl [4, 14, 15, 16, 17] (by decide +kernel) rfl rfl) rfl rfl hl.1 rfl (lv_room (Nat.le_of_ble_eq_true rfl)) dX12_read_78 ⟨Nat.le_of_ble_eq_true rfl, Nat.le_of_ble_eq_true rfl⟩) hS (fun q _ h => hFc q h) hFc (fun r_48 u_49 t H1 locs ht hvm hr_48 hB hz1 hk1 hS => ?_)
          obtain ⟨hP1, hD1⟩ := hB
          rw [ht] at hP1
          obtain ⟨hP, hD⟩ := va_repl [(h0, .inr (9, fs0)), (h1, .inl (T 6, 4, .inr (.inr (.inr (.inr (va_up (va_up (va_up (va_up (fun _ => none) 0 (some t0)) 1 (some t1)) 2 (some t2)) 3 (some t3))))))), (t0, .inr (6, [.int (so 0), .int (sn 0), .ref a00, .ref a01, .ref a02, .ref a03])), (t1, .inr (6, [.int (so 1), .int (sn 1), .ref a10, .ref a11, .ref a12, .ref a13])), (t2, .inr (6, [.int (so 2), .int (sn 2), .ref a20, .ref a21, .ref a22, .ref a23])), (t3, .inr (6, [.int (so 3), .int (sn 3), .ref a30, .ref a31, .ref a32, .ref a33])), (a00, .inl (T 0, 30, .inl (si 0))), (a01, .inl (T 1, 30, .inr (.inl (sl 0)))), (a02, .inl (T 2, 30, .inr (.inr (.inl (sf 0))))), (a03, .inl (T 3, 30, .inr (.inr (.inr (.inl (sd 0)))))), (a10, .inl (T 0, 30, .inl (si 1))), (a11, .inl (T 1, 30, .inr (.inl (sl 1)))), (a12, .inl (T 2, 30, .inr (.inr (.inl (sf 1))))), (a13, .inl (T 3, 30, .inr (.inr (.inr (.inl (sd 1)))))), (a20, .inl (T 0, 30, .inl (si 2))), (a21, .inl (T 1, 30, .inr (.inl (sl 2)))), (a22, .inl (T 2, 30, .inr (.inr (.inl (sf 2))))), (a23, .inl (T 3, 30, .inr (.inr (.inr (.inl (sd 2)))))), (a30, .inl (T 0, 30, .inl (si 3))), (a31, .inl (T 1, 30, .inr (.inl (sl 3)))), (a32, .inl (T 2, 30, .inr (.inr (.inl (sf 3))))), (a33, .inl (T 3, 30, .inr (.inr (.inr (.inl (sd 3))))))] hP hD [4, 14, 15, 16, 17] [4, 14, 15, 16, 17] rfl (by decide +kernel) rfl rfl rfl hk1 hP1
          clear hP1 hD1 hFc
          generalize H1 = H at hP hS ⊢
          refine lv_i2l hx hb dX12_read_81 rfl ?_
          refine W.endD hd0 ?_
          exact W.lret hx hb hr (fun t ht hW => ⟨⟨_, (), rfl, trivial, by rw [ht]; exact hP.sub [0, 1, 2, 3, 4, 5, 6, 7, 8, 9, 10, 11, 12, 13, 14, 15, 16, 17, 18, 19, 20, 21] rfl, hD.sub [0, 1, 2, 3, 4, 5, 6, 7, 8, 9, 10, 11, 12, 13, 14, 15, 16, 17, 18, 19, 20, 21] (by decide +kernel) rfl⟩, hS.F ht⟩) hS.2.2 dX12_read_82
        by_cases k_50 : x3 = 2
        · subst k_50
          refine lv_tableIn (off := 40) (tgt := 83) hx hb dX12_read_43 (by decide +kernel) (by decide +kernel) (by decide +kernel) (by decide +kernel) ?_
          refine lv_aload hx hb dX12_read_83 (lv_at hl 0 rfl) ?_
          refine lv_iload_n hx hb dX12_read_85 rfl (lv_at hl 4 rfl) ?_
          have hFc := va_free (wc := [(t2, .inr (6, [.int (so 2), .int (sn 2), .ref a20, .ref a21, .ref a22, .ref a23])), (a20, .inl (T 0, 30, .inl (si 2))), (a21, .inl (T 1, 30, .inr (.inl (sl 2)))), (a22, .inl (T 2, 30, .inr (.inr (.inl (sf 2))))), (a23, .inl (T 3, 30, .inr (.inr (.inr (.inl (sd 2))))))]) hD hS hA [4, 14, 15, 16, 17] rfl
          refine va_calll (va_runV (As := [.int x2]) (rest := []) ⟨hx, hb, hml, hown, hts⟩ (c_X9_asLong l D T _ t2 (so 2) (sn 2) a20 a21 a22 a23 (si 2) (sl 2) (sf 2) (sd 2) x2 (by rw [vp_in_iff]; omega)) (cwV 1 hts gX12_read_X9_asLong rfl rfl rfl hv_X9_asLong ⟨Nat.le_of_ble_eq_true rfl, Nat.le_of_ble_eq_true rfl⟩) (pW_V (q := (RX9, TX9, 6)) (ci := 6) (q0 := 4) hP hE hD rfl rfl [4, 14, 15, 16, 17] (by decide +kernel) rfl rfl) rfl rfl hl.1 rfl (lv_room (Nat.le_of_ble_eq_true rfl)) dX12_read_86 ⟨Nat.le_of_ble_eq_true rfl, Nat.le_of_ble_eq_true rfl⟩) hS (fun q _ h => hFc q h) hFc (fun r_51 u_52 t H1 locs ht hvm hr_51 hB hz1 hk1 hS => ?_)
          obtain ⟨hP1, hD1⟩ := hB
          rw [ht] at hP1
          obtain ⟨hP, hD⟩ := va_repl [(h0, .inr (9, fs0)), (h1, .inl (T 6, 4, .inr (.inr (.inr (.inr (va_up (va_up (va_up (va_up (fun _ => none) 0 (some t0)) 1 (some t1)) 2 (some t2)) 3 (some t3))))))), (t0, .inr (6, [.int (so 0), .int (sn 0), .ref a00, .ref a01, .ref a02, .ref a03])), (t1, .inr (6, [.int (so 1), .int (sn 1), .ref a10, .ref a11, .ref a12, .ref a13])), (t2, .inr (6, [.int (so 2), .int (sn 2), .ref a20, .ref a21, .ref a22, .ref a23])), (t3, .inr (6, [.int (so 3), .int (sn 3), .ref a30, .ref a31, .ref a32, .ref a33])), (a00, .inl (T 0, 30, .inl (si 0))), (a01, .inl (T 1, 30, .inr (.inl (sl 0)))), (a02, .inl (T 2, 30, .inr (.inr (.inl (sf 0))))), (a03, .inl (T 3, 30, .inr (.inr (.inr (.inl (sd 0)))))), (a10, .inl (T 0, 30, .inl (si 1))), (a11, .inl (T 1, 30, .inr (.inl (sl 1)))), (a12, .inl (T 2, 30, .inr (.inr (.inl (sf 1))))), (a13, .inl (T 3, 30, .inr (.inr (.inr (.inl (sd 1)))))), (a20, .inl (T 0, 30, .inl (si 2))), (a21, .inl (T 1, 30, .inr (.inl (sl 2)))), (a22, .inl (T 2, 30, .inr (.inr (.inl (sf 2))))), (a23, .inl (T 3, 30, .inr (.inr (.inr (.inl (sd 2)))))), (a30, .inl (T 0, 30, .inl (si 3))), (a31, .inl (T 1, 30, .inr (.inl (sl 3)))), (a32, .inl (T 2, 30, .inr (.inr (.inl (sf 3))))), (a33, .inl (T 3, 30, .inr (.inr (.inr (.inl (sd 3))))))] hP hD [4, 14, 15, 16, 17] [4, 14, 15, 16, 17] rfl (by decide +kernel) rfl rfl rfl hk1 hP1
          clear hP1 hD1 hFc
          generalize H1 = H at hP hS ⊢
          refine W.endD hd0 ?_
          exact W.lret hx hb hr (fun t ht hW => ⟨⟨_, (), rfl, trivial, by rw [ht]; exact hP.sub [0, 1, 2, 3, 4, 5, 6, 7, 8, 9, 10, 11, 12, 13, 14, 15, 16, 17, 18, 19, 20, 21] rfl, hD.sub [0, 1, 2, 3, 4, 5, 6, 7, 8, 9, 10, 11, 12, 13, 14, 15, 16, 17, 18, 19, 20, 21] (by decide +kernel) rfl⟩, hS.F ht⟩) hS.2.2 dX12_read_89
        rw [fa_eq] at k_43 k_47 k_50
        try simp only [ti_0, ti_1, ti_2] at k_43 k_47 k_50
        refine lv_tableOut (tgt := 90) hx hb dX12_read_43 (by omega) (by decide +kernel) ?_
        refine lv_aload hx hb dX12_read_90 (lv_at hl 0 rfl) ?_
        refine lv_iload_n hx hb dX12_read_92 rfl (lv_at hl 4 rfl) ?_
        have hFc := va_free (wc := [(t2, .inr (6, [.int (so 2), .int (sn 2), .ref a20, .ref a21, .ref a22, .ref a23])), (a20, .inl (T 0, 30, .inl (si 2))), (a21, .inl (T 1, 30, .inr (.inl (sl 2)))), (a22, .inl (T 2, 30, .inr (.inr (.inl (sf 2))))), (a23, .inl (T 3, 30, .inr (.inr (.inr (.inl (sd 2))))))]) hD hS hA [4, 14, 15, 16, 17] rfl
        refine va_calldD hd0 (va_runV_D (As := [.int x2]) (rest := []) ⟨hx, hb, hml, hown, hts⟩ (c_X9_asDouble l D T _ t2 (so 2) (sn 2) a20 a21 a22 a23 (si 2) (sl 2) (sf 2) (sd 2) x2 (by rw [vp_in_iff]; omega)) (cwV 1 hts gX12_read_X9_asDouble rfl rfl rfl hv_X9_asDouble ⟨Nat.le_of_ble_eq_true rfl, Nat.le_of_ble_eq_true rfl⟩) (pW_V (q := (RX9, TX9, 6)) (ci := 6) (q0 := 4) hP hE hD rfl rfl [4, 14, 15, 16, 17] (by decide +kernel) rfl rfl) rfl rfl hl.1 rfl (lv_room (Nat.le_of_ble_eq_true rfl)) dX12_read_93 ⟨Nat.le_of_ble_eq_true rfl, Nat.le_of_ble_eq_true rfl⟩) hS (fun q _ h => hFc q h) hFc (fun r_53 u_54 t H1 locs ht hvm hr_53 hB hz1 hk1 hS d_55 hd_55 => ?_)
        have hts := dr_words hts0 d_55
        have hE : ekK D T (s.setDrawn d_55) := ekK.same (u := s) rfl hE0
        have hown : (s.setDrawn d_55).vm.findClass RX12 = some m.cls := hown0
        obtain ⟨hP1, hD1⟩ := hB
        rw [ht] at hP1
        obtain ⟨hP, hD⟩ := va_repl [(h0, .inr (9, fs0)), (h1, .inl (T 6, 4, .inr (.inr (.inr (.inr (va_up (va_up (va_up (va_up (fun _ => none) 0 (some t0)) 1 (some t1)) 2 (some t2)) 3 (some t3))))))), (t0, .inr (6, [.int (so 0), .int (sn 0), .ref a00, .ref a01, .ref a02, .ref a03])), (t1, .inr (6, [.int (so 1), .int (sn 1), .ref a10, .ref a11, .ref a12, .ref a13])), (t2, .inr (6, [.int (so 2), .int (sn 2), .ref a20, .ref a21, .ref a22, .ref a23])), (t3, .inr (6, [.int (so 3), .int (sn 3), .ref a30, .ref a31, .ref a32, .ref a33])), (a00, .inl (T 0, 30, .inl (si 0))), (a01, .inl (T 1, 30, .inr (.inl (sl 0)))), (a02, .inl (T 2, 30, .inr (.inr (.inl (sf 0))))), (a03, .inl (T 3, 30, .inr (.inr (.inr (.inl (sd 0)))))), (a10, .inl (T 0, 30, .inl (si 1))), (a11, .inl (T 1, 30, .inr (.inl (sl 1)))), (a12, .inl (T 2, 30, .inr (.inr (.inl (sf 1))))), (a13, .inl (T 3, 30, .inr (.inr (.inr (.inl (sd 1)))))), (a20, .inl (T 0, 30, .inl (si 2))), (a21, .inl (T 1, 30, .inr (.inl (sl 2)))), (a22, .inl (T 2, 30, .inr (.inr (.inl (sf 2))))), (a23, .inl (T 3, 30, .inr (.inr (.inr (.inl (sd 2)))))), (a30, .inl (T 0, 30, .inl (si 3))), (a31, .inl (T 1, 30, .inr (.inl (sl 3)))), (a32, .inl (T 2, 30, .inr (.inr (.inl (sf 3))))), (a33, .inl (T 3, 30, .inr (.inr (.inr (.inl (sd 3))))))] hP hD [4, 14, 15, 16, 17] [4, 14, 15, 16, 17] rfl (by decide +kernel) rfl rfl rfl hk1 hP1
        clear hP1 hD1 hFc
        generalize H1 = H at hP hS ⊢
        refine lv_ldc2d (v := 4619567317775286272) hx hb hown (hts (.constantDouble RX12 340 (4619567317775286272)) (List.mem_of_getElem? (i := 4) rfl)) dX12_read_96 ?_
        have hFc := va_free (wc := []) hD hS hA [] rfl
        refine va_calldD hd_55 (va_runS_D (As := [.double r_53, .double 4619567317775286272]) (rest := []) ⟨hx, hb, hml, hown, hts⟩ (c_X5_remainder l D T _ r_53 4619567317775286272) (va_cwS 2 hts gX12_read_X5_remainder rfl rfl rfl hs_X5_remainder ⟨Nat.le_of_ble_eq_true rfl, Nat.le_of_ble_eq_true rfl⟩) (pW_S hP hE hD [] (by decide +kernel) rfl rfl) rfl rfl hl.1 rfl (lv_room (Nat.le_of_ble_eq_true rfl)) dX12_read_99 ⟨Nat.le_of_ble_eq_true rfl, Nat.le_of_ble_eq_true rfl⟩) hS (fun q _ h => hFc q h) hFc (fun r_56 u_57 t H1 locs ht hvm hr_56 hB hz1 hk1 hS d_58 hd_58 => ?_)
        have hts := dr_words hts0 d_58
        have hE : ekK D T (s.setDrawn d_58) := ekK.same (u := s) rfl hE0
        have hown : (s.setDrawn d_58).vm.findClass RX12 = some m.cls := hown0
        obtain ⟨hP1, hD1⟩ := hB
        rw [ht] at hP1
        obtain ⟨hP, hD⟩ := va_repl [(h0, .inr (9, fs0)), (h1, .inl (T 6, 4, .inr (.inr (.inr (.inr (va_up (va_up (va_up (va_up (fun _ => none) 0 (some t0)) 1 (some t1)) 2 (some t2)) 3 (some t3))))))), (t0, .inr (6, [.int (so 0), .int (sn 0), .ref a00, .ref a01, .ref a02, .ref a03])), (t1, .inr (6, [.int (so 1), .int (sn 1), .ref a10, .ref a11, .ref a12, .ref a13])), (t2, .inr (6, [.int (so 2), .int (sn 2), .ref a20, .ref a21, .ref a22, .ref a23])), (t3, .inr (6, [.int (so 3), .int (sn 3), .ref a30, .ref a31, .ref a32, .ref a33])), (a00, .inl (T 0, 30, .inl (si 0))), (a01, .inl (T 1, 30, .inr (.inl (sl 0)))), (a02, .inl (T 2, 30, .inr (.inr (.inl (sf 0))))), (a03, .inl (T 3, 30, .inr (.inr (.inr (.inl (sd 0)))))), (a10, .inl (T 0, 30, .inl (si 1))), (a11, .inl (T 1, 30, .inr (.inl (sl 1)))), (a12, .inl (T 2, 30, .inr (.inr (.inl (sf 1))))), (a13, .inl (T 3, 30, .inr (.inr (.inr (.inl (sd 1)))))), (a20, .inl (T 0, 30, .inl (si 2))), (a21, .inl (T 1, 30, .inr (.inl (sl 2)))), (a22, .inl (T 2, 30, .inr (.inr (.inl (sf 2))))), (a23, .inl (T 3, 30, .inr (.inr (.inr (.inl (sd 2)))))), (a30, .inl (T 0, 30, .inl (si 3))), (a31, .inl (T 1, 30, .inr (.inl (sl 3)))), (a32, .inl (T 2, 30, .inr (.inr (.inl (sf 3))))), (a33, .inl (T 3, 30, .inr (.inr (.inr (.inl (sd 3))))))] hP hD [] [] rfl (by decide +kernel) rfl rfl rfl hk1 hP1
        clear hP1 hD1 hFc
        generalize H1 = H at hP hS ⊢
        have hFc := va_free (wc := []) hD hS hA [] rfl
        refine va_calllD hd_58 (va_runS_D (As := [.double r_56]) (rest := []) ⟨hx, hb, hml, hown, hts⟩ (c_X5_doubleBits l D T _ r_56) (va_cwS 1 hts gX12_read_X5_doubleBits rfl rfl rfl hs_X5_doubleBits ⟨Nat.le_of_ble_eq_true rfl, Nat.le_of_ble_eq_true rfl⟩) (pW_S hP hE hD [] (by decide +kernel) rfl rfl) rfl rfl hl.1 rfl (lv_room (Nat.le_of_ble_eq_true rfl)) dX12_read_102 ⟨Nat.le_of_ble_eq_true rfl, Nat.le_of_ble_eq_true rfl⟩) hS (fun q _ h => hFc q h) hFc (fun r_59 u_60 t H1 locs ht hvm hr_59 hB hz1 hk1 hS d_61 hd_61 => ?_)
        have hts := dr_words hts0 d_61
        have hE : ekK D T (s.setDrawn d_61) := ekK.same (u := s) rfl hE0
        have hown : (s.setDrawn d_61).vm.findClass RX12 = some m.cls := hown0
        obtain ⟨hP1, hD1⟩ := hB
        rw [ht] at hP1
        obtain ⟨hP, hD⟩ := va_repl [(h0, .inr (9, fs0)), (h1, .inl (T 6, 4, .inr (.inr (.inr (.inr (va_up (va_up (va_up (va_up (fun _ => none) 0 (some t0)) 1 (some t1)) 2 (some t2)) 3 (some t3))))))), (t0, .inr (6, [.int (so 0), .int (sn 0), .ref a00, .ref a01, .ref a02, .ref a03])), (t1, .inr (6, [.int (so 1), .int (sn 1), .ref a10, .ref a11, .ref a12, .ref a13])), (t2, .inr (6, [.int (so 2), .int (sn 2), .ref a20, .ref a21, .ref a22, .ref a23])), (t3, .inr (6, [.int (so 3), .int (sn 3), .ref a30, .ref a31, .ref a32, .ref a33])), (a00, .inl (T 0, 30, .inl (si 0))), (a01, .inl (T 1, 30, .inr (.inl (sl 0)))), (a02, .inl (T 2, 30, .inr (.inr (.inl (sf 0))))), (a03, .inl (T 3, 30, .inr (.inr (.inr (.inl (sd 0)))))), (a10, .inl (T 0, 30, .inl (si 1))), (a11, .inl (T 1, 30, .inr (.inl (sl 1)))), (a12, .inl (T 2, 30, .inr (.inr (.inl (sf 1))))), (a13, .inl (T 3, 30, .inr (.inr (.inr (.inl (sd 1)))))), (a20, .inl (T 0, 30, .inl (si 2))), (a21, .inl (T 1, 30, .inr (.inl (sl 2)))), (a22, .inl (T 2, 30, .inr (.inr (.inl (sf 2))))), (a23, .inl (T 3, 30, .inr (.inr (.inr (.inl (sd 2)))))), (a30, .inl (T 0, 30, .inl (si 3))), (a31, .inl (T 1, 30, .inr (.inl (sl 3)))), (a32, .inl (T 2, 30, .inr (.inr (.inl (sf 3))))), (a33, .inl (T 3, 30, .inr (.inr (.inr (.inl (sd 3))))))] hP hD [] [] rfl (by decide +kernel) rfl rfl rfl hk1 hP1
        clear hP1 hD1 hFc
        generalize H1 = H at hP hS ⊢
        refine W.endD hd_61 ?_
        exact W.lret hx hb hr (fun t ht hW => ⟨⟨_, (), rfl, trivial, by rw [ht]; exact hP.sub [0, 1, 2, 3, 4, 5, 6, 7, 8, 9, 10, 11, 12, 13, 14, 15, 16, 17, 18, 19, 20, 21] rfl, hD.sub [0, 1, 2, 3, 4, 5, 6, 7, 8, 9, 10, 11, 12, 13, 14, 15, 16, 17, 18, 19, 20, 21] (by decide +kernel) rfl⟩, hS.F ht⟩) hS.2.2 dX12_read_105
      · have h9t := ti_3
        refine va_aldq hx hb hE.1 hP 1 6 rfl rfl (by unfold vp_in; decide) dX12_read_39 ?_
        refine W.eq (g2 := F0 m 40 ls [.ref t3]) rfl ?_
        refine lv_astore (lv' := [(5, .ref t3), (4, .int r_3), (0, .ref h0), (1, .int 3), (2, .int x2), (3, .int x3)]) hx hb dX12_read_40 hl (by decide +kernel) rfl (fun ls hl => ?_)
        refine lv_iload_n hx hb dX12_read_42 rfl (lv_at hl 5 rfl) ?_
        by_cases k_62 : x3 = 0
        · subst k_62
          refine lv_tableIn (off := 25) (tgt := 68) hx hb dX12_read_43 (by decide +kernel) (by decide +kernel) (by decide +kernel) (by decide +kernel) ?_
          refine lv_aload hx hb dX12_read_68 (lv_at hl 0 rfl) ?_
          refine lv_iload_n hx hb dX12_read_70 rfl (lv_at hl 4 rfl) ?_
          have hFc := va_free (wc := [(t3, .inr (6, [.int (so 3), .int (sn 3), .ref a30, .ref a31, .ref a32, .ref a33])), (a30, .inl (T 0, 30, .inl (si 3))), (a31, .inl (T 1, 30, .inr (.inl (sl 3)))), (a32, .inl (T 2, 30, .inr (.inr (.inl (sf 3))))), (a33, .inl (T 3, 30, .inr (.inr (.inr (.inl (sd 3))))))]) hD hS hA [5, 18, 19, 20, 21] rfl
          refine va_calllD hd0 (va_runV_D (As := [.int x2]) (rest := []) ⟨hx, hb, hml, hown, hts⟩ (c_X9_asItIs l D T _ t3 (so 3) (sn 3) a30 a31 a32 a33 (si 3) (sl 3) (sf 3) (sd 3) x2 (by rw [vp_in_iff]; omega)) (cwV 1 hts gX12_read_X9_asItIs rfl rfl rfl hv_X9_asItIs ⟨Nat.le_of_ble_eq_true rfl, Nat.le_of_ble_eq_true rfl⟩) (pW_V (q := (RX9, TX9, 6)) (ci := 6) (q0 := 5) hP hE hD rfl rfl [5, 18, 19, 20, 21] (by decide +kernel) rfl rfl) rfl rfl hl.1 rfl (lv_room (Nat.le_of_ble_eq_true rfl)) dX12_read_71 ⟨Nat.le_of_ble_eq_true rfl, Nat.le_of_ble_eq_true rfl⟩) hS (fun q _ h => hFc q h) hFc (fun r_63 u_64 t H1 locs ht hvm hr_63 hB hz1 hk1 hS d_65 hd_65 => ?_)
          have hts := dr_words hts0 d_65
          have hE : ekK D T (s.setDrawn d_65) := ekK.same (u := s) rfl hE0
          have hown : (s.setDrawn d_65).vm.findClass RX12 = some m.cls := hown0
          obtain ⟨hP1, hD1⟩ := hB
          rw [ht] at hP1
          obtain ⟨hP, hD⟩ := va_repl [(h0, .inr (9, fs0)), (h1, .inl (T 6, 4, .inr (.inr (.inr (.inr (va_up (va_up (va_up (va_up (fun _ => none) 0 (some t0)) 1 (some t1)) 2 (some t2)) 3 (some t3))))))), (t0, .inr (6, [.int (so 0), .int (sn 0), .ref a00, .ref a01, .ref a02, .ref a03])), (t1, .inr (6, [.int (so 1), .int (sn 1), .ref a10, .ref a11, .ref a12, .ref a13])), (t2, .inr (6, [.int (so 2), .int (sn 2), .ref a20, .ref a21, .ref a22, .ref a23])), (t3, .inr (6, [.int (so 3), .int (sn 3), .ref a30, .ref a31, .ref a32, .ref a33])), (a00, .inl (T 0, 30, .inl (si 0))), (a01, .inl (T 1, 30, .inr (.inl (sl 0)))), (a02, .inl (T 2, 30, .inr (.inr (.inl (sf 0))))), (a03, .inl (T 3, 30, .inr (.inr (.inr (.inl (sd 0)))))), (a10, .inl (T 0, 30, .inl (si 1))), (a11, .inl (T 1, 30, .inr (.inl (sl 1)))), (a12, .inl (T 2, 30, .inr (.inr (.inl (sf 1))))), (a13, .inl (T 3, 30, .inr (.inr (.inr (.inl (sd 1)))))), (a20, .inl (T 0, 30, .inl (si 2))), (a21, .inl (T 1, 30, .inr (.inl (sl 2)))), (a22, .inl (T 2, 30, .inr (.inr (.inl (sf 2))))), (a23, .inl (T 3, 30, .inr (.inr (.inr (.inl (sd 2)))))), (a30, .inl (T 0, 30, .inl (si 3))), (a31, .inl (T 1, 30, .inr (.inl (sl 3)))), (a32, .inl (T 2, 30, .inr (.inr (.inl (sf 3))))), (a33, .inl (T 3, 30, .inr (.inr (.inr (.inl (sd 3))))))] hP hD [5, 18, 19, 20, 21] [5, 18, 19, 20, 21] rfl (by decide +kernel) rfl rfl rfl hk1 hP1
          clear hP1 hD1 hFc
          generalize H1 = H at hP hS ⊢
          refine W.endD hd_65 ?_
          exact W.lret hx hb hr (fun t ht hW => ⟨⟨_, (), rfl, trivial, by rw [ht]; exact hP.sub [0, 1, 2, 3, 4, 5, 6, 7, 8, 9, 10, 11, 12, 13, 14, 15, 16, 17, 18, 19, 20, 21] rfl, hD.sub [0, 1, 2, 3, 4, 5, 6, 7, 8, 9, 10, 11, 12, 13, 14, 15, 16, 17, 18, 19, 20, 21] (by decide +kernel) rfl⟩, hS.F ht⟩) hS.2.2 dX12_read_74
        by_cases k_66 : x3 = 1
        · subst k_66
          refine lv_tableIn (off := 32) (tgt := 75) hx hb dX12_read_43 (by decide +kernel) (by decide +kernel) (by decide +kernel) (by decide +kernel) ?_
          refine lv_aload hx hb dX12_read_75 (lv_at hl 0 rfl) ?_
          refine lv_iload_n hx hb dX12_read_77 rfl (lv_at hl 4 rfl) ?_
          have hFc := va_free (wc := [(t3, .inr (6, [.int (so 3), .int (sn 3), .ref a30, .ref a31, .ref a32, .ref a33])), (a30, .inl (T 0, 30, .inl (si 3))), (a31, .inl (T 1, 30, .inr (.inl (sl 3)))), (a32, .inl (T 2, 30, .inr (.inr (.inl (sf 3))))), (a33, .inl (T 3, 30, .inr (.inr (.inr (.inl (sd 3))))))]) hD hS hA [5, 18, 19, 20, 21] rfl
          refine va_calli (va_runV (As := [.int x2]) (rest := []) ⟨hx, hb, hml, hown, hts⟩ (c_X9_asInt l D T _ t3 (so 3) (sn 3) a30 a31 a32 a33 (si 3) (sl 3) (sf 3) (sd 3) x2 (by rw [vp_in_iff]; omega)) (cwV 1 hts gX12_read_X9_asInt rfl rfl rfl hv_X9_asInt ⟨Nat.le_of_ble_eq_true rfl, Nat.le_of_ble_eq_true rfl⟩) (pW_V (q := (RX9, TX9, 6)) (ci := 6) (q0 := 5) hP hE hD rfl rfl [5, 18, 19, 20, 21] (by decide +kernel) rfl rfl) rfl rfl hl.1 rfl (lv_room (Nat.le_of_ble_eq_true rfl)) dX12_read_78 ⟨Nat.le_of_ble_eq_true rfl, Nat.le_of_ble_eq_true rfl⟩) hS (fun q _ h => hFc q h) hFc (fun r_67 u_68 t H1 locs ht hvm hr_67 hB hz1 hk1 hS => ?_)
          obtain ⟨hP1, hD1⟩ := hB
          rw [ht] at hP1
          obtain ⟨hP, hD⟩ := va_repl [(h0, .inr (9, fs0)), (h1, .inl (T 6, 4, .inr (.inr (.inr (.inr (va_up (va_up (va_up (va_up (fun _ => none) 0 (some t0)) 1 (some t1)) 2 (some t2)) 3 (some t3))))))), (t0, .inr (6, [.int (so 0), .int (sn 0), .ref a00, .ref a01, .ref a02, .ref a03])), (t1, .inr (6, [.int (so 1), .int (sn 1), .ref a10, .ref a11, .ref a12, .ref a13])), (t2, .inr (6, [.int (so 2), .int (sn 2), .ref a20, .ref a21, .ref a22, .ref a23])), (t3, .inr (6, [.int (so 3), .int (sn 3), .ref a30, .ref a31, .ref a32, .ref a33])), (a00, .inl (T 0, 30, .inl (si 0))), (a01, .inl (T 1, 30, .inr (.inl (sl 0)))), (a02, .inl (T 2, 30, .inr (.inr (.inl (sf 0))))), (a03, .inl (T 3, 30, .inr (.inr (.inr (.inl (sd 0)))))), (a10, .inl (T 0, 30, .inl (si 1))), (a11, .inl (T 1, 30, .inr (.inl (sl 1)))), (a12, .inl (T 2, 30, .inr (.inr (.inl (sf 1))))), (a13, .inl (T 3, 30, .inr (.inr (.inr (.inl (sd 1)))))), (a20, .inl (T 0, 30, .inl (si 2))), (a21, .inl (T 1, 30, .inr (.inl (sl 2)))), (a22, .inl (T 2, 30, .inr (.inr (.inl (sf 2))))), (a23, .inl (T 3, 30, .inr (.inr (.inr (.inl (sd 2)))))), (a30, .inl (T 0, 30, .inl (si 3))), (a31, .inl (T 1, 30, .inr (.inl (sl 3)))), (a32, .inl (T 2, 30, .inr (.inr (.inl (sf 3))))), (a33, .inl (T 3, 30, .inr (.inr (.inr (.inl (sd 3))))))] hP hD [5, 18, 19, 20, 21] [5, 18, 19, 20, 21] rfl (by decide +kernel) rfl rfl rfl hk1 hP1
          clear hP1 hD1 hFc
          generalize H1 = H at hP hS ⊢
          refine lv_i2l hx hb dX12_read_81 rfl ?_
          refine W.endD hd0 ?_
          exact W.lret hx hb hr (fun t ht hW => ⟨⟨_, (), rfl, trivial, by rw [ht]; exact hP.sub [0, 1, 2, 3, 4, 5, 6, 7, 8, 9, 10, 11, 12, 13, 14, 15, 16, 17, 18, 19, 20, 21] rfl, hD.sub [0, 1, 2, 3, 4, 5, 6, 7, 8, 9, 10, 11, 12, 13, 14, 15, 16, 17, 18, 19, 20, 21] (by decide +kernel) rfl⟩, hS.F ht⟩) hS.2.2 dX12_read_82
        by_cases k_69 : x3 = 2
        · subst k_69
          refine lv_tableIn (off := 40) (tgt := 83) hx hb dX12_read_43 (by decide +kernel) (by decide +kernel) (by decide +kernel) (by decide +kernel) ?_
          refine lv_aload hx hb dX12_read_83 (lv_at hl 0 rfl) ?_
          refine lv_iload_n hx hb dX12_read_85 rfl (lv_at hl 4 rfl) ?_
          have hFc := va_free (wc := [(t3, .inr (6, [.int (so 3), .int (sn 3), .ref a30, .ref a31, .ref a32, .ref a33])), (a30, .inl (T 0, 30, .inl (si 3))), (a31, .inl (T 1, 30, .inr (.inl (sl 3)))), (a32, .inl (T 2, 30, .inr (.inr (.inl (sf 3))))), (a33, .inl (T 3, 30, .inr (.inr (.inr (.inl (sd 3))))))]) hD hS hA [5, 18, 19, 20, 21] rfl
          refine va_calll (va_runV (As := [.int x2]) (rest := []) ⟨hx, hb, hml, hown, hts⟩ (c_X9_asLong l D T _ t3 (so 3) (sn 3) a30 a31 a32 a33 (si 3) (sl 3) (sf 3) (sd 3) x2 (by rw [vp_in_iff]; omega)) (cwV 1 hts gX12_read_X9_asLong rfl rfl rfl hv_X9_asLong ⟨Nat.le_of_ble_eq_true rfl, Nat.le_of_ble_eq_true rfl⟩) (pW_V (q := (RX9, TX9, 6)) (ci := 6) (q0 := 5) hP hE hD rfl rfl [5, 18, 19, 20, 21] (by decide +kernel) rfl rfl) rfl rfl hl.1 rfl (lv_room (Nat.le_of_ble_eq_true rfl)) dX12_read_86 ⟨Nat.le_of_ble_eq_true rfl, Nat.le_of_ble_eq_true rfl⟩) hS (fun q _ h => hFc q h) hFc (fun r_70 u_71 t H1 locs ht hvm hr_70 hB hz1 hk1 hS => ?_)
          obtain ⟨hP1, hD1⟩ := hB
          rw [ht] at hP1
          obtain ⟨hP, hD⟩ := va_repl [(h0, .inr (9, fs0)), (h1, .inl (T 6, 4, .inr (.inr (.inr (.inr (va_up (va_up (va_up (va_up (fun _ => none) 0 (some t0)) 1 (some t1)) 2 (some t2)) 3 (some t3))))))), (t0, .inr (6, [.int (so 0), .int (sn 0), .ref a00, .ref a01, .ref a02, .ref a03])), (t1, .inr (6, [.int (so 1), .int (sn 1), .ref a10, .ref a11, .ref a12, .ref a13])), (t2, .inr (6, [.int (so 2), .int (sn 2), .ref a20, .ref a21, .ref a22, .ref a23])), (t3, .inr (6, [.int (so 3), .int (sn 3), .ref a30, .ref a31, .ref a32, .ref a33])), (a00, .inl (T 0, 30, .inl (si 0))), (a01, .inl (T 1, 30, .inr (.inl (sl 0)))), (a02, .inl (T 2, 30, .inr (.inr (.inl (sf 0))))), (a03, .inl (T 3, 30, .inr (.inr (.inr (.inl (sd 0)))))), (a10, .inl (T 0, 30, .inl (si 1))), (a11, .inl (T 1, 30, .inr (.inl (sl 1)))), (a12, .inl (T 2, 30, .inr (.inr (.inl (sf 1))))), (a13, .inl (T 3, 30, .inr (.inr (.inr (.inl (sd 1)))))), (a20, .inl (T 0, 30, .inl (si 2))), (a21, .inl (T 1, 30, .inr (.inl (sl 2)))), (a22, .inl (T 2, 30, .inr (.inr (.inl (sf 2))))), (a23, .inl (T 3, 30, .inr (.inr (.inr (.inl (sd 2)))))), (a30, .inl (T 0, 30, .inl (si 3))), (a31, .inl (T 1, 30, .inr (.inl (sl 3)))), (a32, .inl (T 2, 30, .inr (.inr (.inl (sf 3))))), (a33, .inl (T 3, 30, .inr (.inr (.inr (.inl (sd 3))))))] hP hD [5, 18, 19, 20, 21] [5, 18, 19, 20, 21] rfl (by decide +kernel) rfl rfl rfl hk1 hP1
          clear hP1 hD1 hFc
          generalize H1 = H at hP hS ⊢
          refine W.endD hd0 ?_
          exact W.lret hx hb hr (fun t ht hW => ⟨⟨_, (), rfl, trivial, by rw [ht]; exact hP.sub [0, 1, 2, 3, 4, 5, 6, 7, 8, 9, 10, 11, 12, 13, 14, 15, 16, 17, 18, 19, 20, 21] rfl, hD.sub [0, 1, 2, 3, 4, 5, 6, 7, 8, 9, 10, 11, 12, 13, 14, 15, 16, 17, 18, 19, 20, 21] (by decide +kernel) rfl⟩, hS.F ht⟩) hS.2.2 dX12_read_89
        rw [fa_eq] at k_62 k_66 k_69
        try simp only [ti_0, ti_1, ti_2] at k_62 k_66 k_69
        refine lv_tableOut (tgt := 90) hx hb dX12_read_43 (by omega) (by decide +kernel) ?_
        refine lv_aload hx hb dX12_read_90 (lv_at hl 0 rfl) ?_
        refine lv_iload_n hx hb dX12_read_92 rfl (lv_at hl 4 rfl) ?_
        have hFc := va_free (wc := [(t3, .inr (6, [.int (so 3), .int (sn 3), .ref a30, .ref a31, .ref a32, .ref a33])), (a30, .inl (T 0, 30, .inl (si 3))), (a31, .inl (T 1, 30, .inr (.inl (sl 3)))), (a32, .inl (T 2, 30, .inr (.inr (.inl (sf 3))))), (a33, .inl (T 3, 30, .inr (.inr (.inr (.inl (sd 3))))))]) hD hS hA [5, 18, 19, 20, 21] rfl
        refine va_calldD hd0 (va_runV_D (As := [.int x2]) (rest := []) ⟨hx, hb, hml, hown, hts⟩ (c_X9_asDouble l D T _ t3 (so 3) (sn 3) a30 a31 a32 a33 (si 3) (sl 3) (sf 3) (sd 3) x2 (by rw [vp_in_iff]; omega)) (cwV 1 hts gX12_read_X9_asDouble rfl rfl rfl hv_X9_asDouble ⟨Nat.le_of_ble_eq_true rfl, Nat.le_of_ble_eq_true rfl⟩) (pW_V (q := (RX9, TX9, 6)) (ci := 6) (q0 := 5) hP hE hD rfl rfl [5, 18, 19, 20, 21] (by decide +kernel) rfl rfl) rfl rfl hl.1 rfl (lv_room (Nat.le_of_ble_eq_true rfl)) dX12_read_93 ⟨Nat.le_of_ble_eq_true rfl, Nat.le_of_ble_eq_true rfl⟩) hS (fun q _ h => hFc q h) hFc (fun r_72 u_73 t H1 locs ht hvm hr_72 hB hz1 hk1 hS d_74 hd_74 => ?_)
        have hts := dr_words hts0 d_74
        have hE : ekK D T (s.setDrawn d_74) := ekK.same (u := s) rfl hE0
        have hown : (s.setDrawn d_74).vm.findClass RX12 = some m.cls := hown0
        obtain ⟨hP1, hD1⟩ := hB
        rw [ht] at hP1
        obtain ⟨hP, hD⟩ := va_repl [(h0, .inr (9, fs0)), (h1, .inl (T 6, 4, .inr (.inr (.inr (.inr (va_up (va_up (va_up (va_up (fun _ => none) 0 (some t0)) 1 (some t1)) 2 (some t2)) 3 (some t3))))))), (t0, .inr (6, [.int (so 0), .int (sn 0), .ref a00, .ref a01, .ref a02, .ref a03])), (t1, .inr (6, [.int (so 1), .int (sn 1), .ref a10, .ref a11, .ref a12, .ref a13])), (t2, .inr (6, [.int (so 2), .int (sn 2), .ref a20, .ref a21, .ref a22, .ref a23])), (t3, .inr (6, [.int (so 3), .int (sn 3), .ref a30, .ref a31, .ref a32, .ref a33])), (a00, .inl (T 0, 30, .inl (si 0))), (a01, .inl (T 1, 30, .inr (.inl (sl 0)))), (a02, .inl (T 2, 30, .inr (.inr (.inl (sf 0))))), (a03, .inl (T 3, 30, .inr (.inr (.inr (.inl (sd 0)))))), (a10, .inl (T 0, 30, .inl (si 1))), (a11, .inl (T 1, 30, .inr (.inl (sl 1)))), (a12, .inl (T 2, 30, .inr (.inr (.inl (sf 1))))), (a13, .inl (T 3, 30, .inr (.inr (.inr (.inl (sd 1)))))), (a20, .inl (T 0, 30, .inl (si 2))), (a21, .inl (T 1, 30, .inr (.inl (sl 2)))), (a22, .inl (T 2, 30, .inr (.inr (.inl (sf 2))))), (a23, .inl (T 3, 30, .inr (.inr (.inr (.inl (sd 2)))))), (a30, .inl (T 0, 30, .inl (si 3))), (a31, .inl (T 1, 30, .inr (.inl (sl 3)))), (a32, .inl (T 2, 30, .inr (.inr (.inl (sf 3))))), (a33, .inl (T 3, 30, .inr (.inr (.inr (.inl (sd 3))))))] hP hD [5, 18, 19, 20, 21] [5, 18, 19, 20, 21] rfl (by decide +kernel) rfl rfl rfl hk1 hP1
        clear hP1 hD1 hFc
        generalize H1 = H at hP hS ⊢
        refine lv_ldc2d (v := 4619567317775286272) hx hb hown (hts (.constantDouble RX12 340 (4619567317775286272)) (List.mem_of_getElem? (i := 4) rfl)) dX12_read_96 ?_
        have hFc := va_free (wc := []) hD hS hA [] rfl
        refine va_calldD hd_74 (va_runS_D (As := [.double r_72, .double 4619567317775286272]) (rest := []) ⟨hx, hb, hml, hown, hts⟩ (c_X5_remainder l D T _ r_72 4619567317775286272) (va_cwS 2 hts gX12_read_X5_remainder rfl rfl rfl hs_X5_remainder ⟨Nat.le_of_ble_eq_true rfl, Nat.le_of_ble_eq_true rfl⟩) (pW_S hP hE hD [] (by decide +kernel) rfl rfl) rfl rfl hl.1 rfl (lv_room (Nat.le_of_ble_eq_true rfl)) dX12_read_99 ⟨Nat.le_of_ble_eq_true rfl, Nat.le_of_ble_eq_true rfl⟩) hS (fun q _ h => hFc q h) hFc (fun r_75 u_76 t H1 locs ht hvm hr_75 hB hz1 hk1 hS d_77 hd_77 => ?_)
        have hts := dr_words hts0 d_77
        have hE : ekK D T (s.setDrawn d_77) := ekK.same (u := s) rfl hE0
        have hown : (s.setDrawn d_77).vm.findClass RX12 = some m.cls := hown0
        obtain ⟨hP1, hD1⟩ := hB
        rw [ht] at hP1
        obtain ⟨hP, hD⟩ := va_repl [(h0, .inr (9, fs0)), (h1, .inl (T 6, 4, .inr (.inr (.inr (.inr (va_up (va_up (va_up (va_up (fun _ => none) 0 (some t0)) 1 (some t1)) 2 (some t2)) 3 (some t3))))))), (t0, .inr (6, [.int (so 0), .int (sn 0), .ref a00, .ref a01, .ref a02, .ref a03])), (t1, .inr (6, [.int (so 1), .int (sn 1), .ref a10, .ref a11, .ref a12, .ref a13])), (t2, .inr (6, [.int (so 2), .int (sn 2), .ref a20, .ref a21, .ref a22, .ref a23])), (t3, .inr (6, [.int (so 3), .int (sn 3), .ref a30, .ref a31, .ref a32, .ref a33])), (a00, .inl (T 0, 30, .inl (si 0))), (a01, .inl (T 1, 30, .inr (.inl (sl 0)))), (a02, .inl (T 2, 30, .inr (.inr (.inl (sf 0))))), (a03, .inl (T 3, 30, .inr (.inr (.inr (.inl (sd 0)))))), (a10, .inl (T 0, 30, .inl (si 1))), (a11, .inl (T 1, 30, .inr (.inl (sl 1)))), (a12, .inl (T 2, 30, .inr (.inr (.inl (sf 1))))), (a13, .inl (T 3, 30, .inr (.inr (.inr (.inl (sd 1)))))), (a20, .inl (T 0, 30, .inl (si 2))), (a21, .inl (T 1, 30, .inr (.inl (sl 2)))), (a22, .inl (T 2, 30, .inr (.inr (.inl (sf 2))))), (a23, .inl (T 3, 30, .inr (.inr (.inr (.inl (sd 2)))))), (a30, .inl (T 0, 30, .inl (si 3))), (a31, .inl (T 1, 30, .inr (.inl (sl 3)))), (a32, .inl (T 2, 30, .inr (.inr (.inl (sf 3))))), (a33, .inl (T 3, 30, .inr (.inr (.inr (.inl (sd 3))))))] hP hD [] [] rfl (by decide +kernel) rfl rfl rfl hk1 hP1
        clear hP1 hD1 hFc
        generalize H1 = H at hP hS ⊢
        have hFc := va_free (wc := []) hD hS hA [] rfl
        refine va_calllD hd_77 (va_runS_D (As := [.double r_75]) (rest := []) ⟨hx, hb, hml, hown, hts⟩ (c_X5_doubleBits l D T _ r_75) (va_cwS 1 hts gX12_read_X5_doubleBits rfl rfl rfl hs_X5_doubleBits ⟨Nat.le_of_ble_eq_true rfl, Nat.le_of_ble_eq_true rfl⟩) (pW_S hP hE hD [] (by decide +kernel) rfl rfl) rfl rfl hl.1 rfl (lv_room (Nat.le_of_ble_eq_true rfl)) dX12_read_102 ⟨Nat.le_of_ble_eq_true rfl, Nat.le_of_ble_eq_true rfl⟩) hS (fun q _ h => hFc q h) hFc (fun r_78 u_79 t H1 locs ht hvm hr_78 hB hz1 hk1 hS d_80 hd_80 => ?_)
        have hts := dr_words hts0 d_80
        have hE : ekK D T (s.setDrawn d_80) := ekK.same (u := s) rfl hE0
        have hown : (s.setDrawn d_80).vm.findClass RX12 = some m.cls := hown0
        obtain ⟨hP1, hD1⟩ := hB
        rw [ht] at hP1
        obtain ⟨hP, hD⟩ := va_repl [(h0, .inr (9, fs0)), (h1, .inl (T 6, 4, .inr (.inr (.inr (.inr (va_up (va_up (va_up (va_up (fun _ => none) 0 (some t0)) 1 (some t1)) 2 (some t2)) 3 (some t3))))))), (t0, .inr (6, [.int (so 0), .int (sn 0), .ref a00, .ref a01, .ref a02, .ref a03])), (t1, .inr (6, [.int (so 1), .int (sn 1), .ref a10, .ref a11, .ref a12, .ref a13])), (t2, .inr (6, [.int (so 2), .int (sn 2), .ref a20, .ref a21, .ref a22, .ref a23])), (t3, .inr (6, [.int (so 3), .int (sn 3), .ref a30, .ref a31, .ref a32, .ref a33])), (a00, .inl (T 0, 30, .inl (si 0))), (a01, .inl (T 1, 30, .inr (.inl (sl 0)))), (a02, .inl (T 2, 30, .inr (.inr (.inl (sf 0))))), (a03, .inl (T 3, 30, .inr (.inr (.inr (.inl (sd 0)))))), (a10, .inl (T 0, 30, .inl (si 1))), (a11, .inl (T 1, 30, .inr (.inl (sl 1)))), (a12, .inl (T 2, 30, .inr (.inr (.inl (sf 1))))), (a13, .inl (T 3, 30, .inr (.inr (.inr (.inl (sd 1)))))), (a20, .inl (T 0, 30, .inl (si 2))), (a21, .inl (T 1, 30, .inr (.inl (sl 2)))), (a22, .inl (T 2, 30, .inr (.inr (.inl (sf 2))))), (a23, .inl (T 3, 30, .inr (.inr (.inr (.inl (sd 2)))))), (a30, .inl (T 0, 30, .inl (si 3))), (a31, .inl (T 1, 30, .inr (.inl (sl 3)))), (a32, .inl (T 2, 30, .inr (.inr (.inl (sf 3))))), (a33, .inl (T 3, 30, .inr (.inr (.inr (.inl (sd 3))))))] hP hD [] [] rfl (by decide +kernel) rfl rfl rfl hk1 hP1
        clear hP1 hD1 hFc
        generalize H1 = H at hP hS ⊢
        refine W.endD hd_80 ?_
        exact W.lret hx hb hr (fun t ht hW => ⟨⟨_, (), rfl, trivial, by rw [ht]; exact hP.sub [0, 1, 2, 3, 4, 5, 6, 7, 8, 9, 10, 11, 12, 13, 14, 15, 16, 17, 18, 19, 20, 21] rfl, hD.sub [0, 1, 2, 3, 4, 5, 6, 7, 8, 9, 10, 11, 12, 13, 14, 15, 16, 17, 18, 19, 20, 21] (by decide +kernel) rfl⟩, hS.F ht⟩) hS.2.2 dX12_read_105
    · rw [fa_eq] at c_4
      try rw [ti_0] at c_4
      refine lv_ldc2 (v := (-4611686018427387904)) hx hb hown (hts (.constantLong RX12 324 (-4611686018427387904)) (List.mem_of_getElem? (i := 2) rfl)) dX12_read_26 ?_
      refine lv_iload hx hb dX12_read_29 (lv_at hl 0 rfl) ?_
      refine lv_i2l hx hb dX12_read_31 rfl ?_
      refine lv_ladd hx hb dX12_read_32 ?_
      refine W.endD hd0 ?_
      exact W.lret hx hb hr (fun t ht hW => ⟨⟨_, (), rfl, trivial, by rw [ht]; exact hP.sub [0, 1, 2, 3, 4, 5, 6, 7, 8, 9, 10, 11, 12, 13, 14, 15, 16, 17, 18, 19, 20, 21] rfl, hD.sub [0, 1, 2, 3, 4, 5, 6, 7, 8, 9, 10, 11, 12, 13, 14, 15, 16, 17, 18, 19, 20, 21] (by decide +kernel) rfl⟩, hS.F ht⟩) hS.2.2 dX12_read_33
  · refine lv_if_ne (tgt := 13) hx hb dX12_read_6 (by decide +kernel) (fun c9 => absurd c9 (by decide +kernel)) (fun _ => ?_)
    refine lv_ldc2 (v := (-4611686018427387906)) hx hb hown (hts (.constantLong RX12 183 (-4611686018427387906)) (List.mem_of_getElem? (i := 1) rfl)) dX12_read_9 ?_
    refine W.endD hd0 ?_
    exact W.lret hx hb hr (fun t ht hW => ⟨⟨_, (), rfl, trivial, by rw [ht]; exact hP.sub [0, 1, 2, 3, 4, 5, 6, 7, 8, 9, 10, 11, 12, 13, 14, 15, 16, 17, 18, 19, 20, 21] rfl, hD.sub [0, 1, 2, 3, 4, 5, 6, 7, 8, 9, 10, 11, 12, 13, 14, 15, 16, 17, 18, 19, 20, 21] (by decide +kernel) rfl⟩, hS.F ht⟩) hS.2.2 dX12_read_12
theorem dX12_valueAs_0 : decode cX12_valueAs 0 = .ok (.aload_n 0, 1) := by decide +kernel
theorem dX12_valueAs_1 : decode cX12_valueAs 1 = .ok (.getfield 32, 3) := by decide +kernel
theorem dX12_valueAs_11 : decode cX12_valueAs 11 = .ok (.iload_n 2, 1) := by decide +kernel
theorem dX12_valueAs_12 : decode cX12_valueAs 12 = .ok (.iload_n 3, 1) := by decide +kernel
theorem dX12_valueAs_124 : decode cX12_valueAs 124 = .ok (.dload 6, 2) := by decide +kernel
theorem dX12_valueAs_126 : decode cX12_valueAs 126 = .ok (.ldc2_w 209, 3) := by decide +kernel
theorem dX12_valueAs_129 : decode cX12_valueAs 129 = .ok (.dmul, 1) := by decide +kernel
theorem dX12_valueAs_13 : decode cX12_valueAs 13 = .ok (.invokestatic 108, 3) := by decide +kernel
theorem dX12_valueAs_130 : decode cX12_valueAs 130 = .ok (.d2l, 1) := by decide +kernel
theorem dX12_valueAs_131 : decode cX12_valueAs 131 = .ok (.lreturn, 1) := by decide +kernel
theorem dX12_valueAs_132 : decode cX12_valueAs 132 = .ok (.dload 6, 2) := by decide +kernel
theorem dX12_valueAs_134 : decode cX12_valueAs 134 = .ok (.d2f, 1) := by decide +kernel
theorem dX12_valueAs_135 : decode cX12_valueAs 135 = .ok (.invokestatic 211, 3) := by decide +kernel
theorem dX12_valueAs_138 : decode cX12_valueAs 138 = .ok (.i2l, 1) := by decide +kernel
theorem dX12_valueAs_139 : decode cX12_valueAs 139 = .ok (.lreturn, 1) := by decide +kernel
theorem dX12_valueAs_140 : decode cX12_valueAs 140 = .ok (.dload 6, 2) := by decide +kernel
theorem dX12_valueAs_142 : decode cX12_valueAs 142 = .ok (.invokestatic 217, 3) := by decide +kernel
theorem dX12_valueAs_145 : decode cX12_valueAs 145 = .ok (.lreturn, 1) := by decide +kernel
theorem dX12_valueAs_146 : decode cX12_valueAs 146 = .ok (.dload 6, 2) := by decide +kernel
theorem dX12_valueAs_148 : decode cX12_valueAs 148 = .ok (.dconst 1, 1) := by decide +kernel
theorem dX12_valueAs_149 : decode cX12_valueAs 149 = .ok (.invokestatic 221, 3) := by decide +kernel
theorem dX12_valueAs_152 : decode cX12_valueAs 152 = .ok (.ldc2_w 225, 3) := by decide +kernel
theorem dX12_valueAs_155 : decode cX12_valueAs 155 = .ok (.dmul, 1) := by decide +kernel
theorem dX12_valueAs_156 : decode cX12_valueAs 156 = .ok (.d2i, 1) := by decide +kernel
theorem dX12_valueAs_157 : decode cX12_valueAs 157 = .ok (.i2l, 1) := by decide +kernel
theorem dX12_valueAs_158 : decode cX12_valueAs 158 = .ok (.lreturn, 1) := by decide +kernel
theorem dX12_valueAs_159 : decode cX12_valueAs 159 = .ok (.dload 6, 2) := by decide +kernel
theorem dX12_valueAs_16 : decode cX12_valueAs 16 = .ok (.ifCond .eq 13, 3) := by decide +kernel
theorem dX12_valueAs_161 : decode cX12_valueAs 161 = .ok (.ldc2_w 227, 3) := by decide +kernel
theorem dX12_valueAs_164 : decode cX12_valueAs 164 = .ok (.invokestatic 221, 3) := by decide +kernel
theorem dX12_valueAs_167 : decode cX12_valueAs 167 = .ok (.invokestatic 217, 3) := by decide +kernel
theorem dX12_valueAs_170 : decode cX12_valueAs 170 = .ok (.lreturn, 1) := by decide +kernel
theorem dX12_valueAs_171 : decode cX12_valueAs 171 = .ok (.dload 6, 2) := by decide +kernel
theorem dX12_valueAs_173 : decode cX12_valueAs 173 = .ok (.d2f, 1) := by decide +kernel
theorem dX12_valueAs_174 : decode cX12_valueAs 174 = .ok (.f2d, 1) := by decide +kernel
theorem dX12_valueAs_175 : decode cX12_valueAs 175 = .ok (.ldc2_w 229, 3) := by decide +kernel
theorem dX12_valueAs_178 : decode cX12_valueAs 178 = .ok (.invokestatic 221, 3) := by decide +kernel
theorem dX12_valueAs_181 : decode cX12_valueAs 181 = .ok (.d2f, 1) := by decide +kernel
theorem dX12_valueAs_182 : decode cX12_valueAs 182 = .ok (.invokestatic 211, 3) := by decide +kernel
theorem dX12_valueAs_185 : decode cX12_valueAs 185 = .ok (.i2l, 1) := by decide +kernel
theorem dX12_valueAs_186 : decode cX12_valueAs 186 = .ok (.lreturn, 1) := by decide +kernel
theorem dX12_valueAs_19 : decode cX12_valueAs 19 = .ok (.iload 4, 2) := by decide +kernel
theorem dX12_valueAs_21 : decode cX12_valueAs 21 = .ok (.iconst 0, 1) := by decide +kernel
theorem dX12_valueAs_22 : decode cX12_valueAs 22 = .ok (.iconst 5, 1) := by decide +kernel
theorem dX12_valueAs_23 : decode cX12_valueAs 23 = .ok (.invokestatic 77, 3) := by decide +kernel
theorem dX12_valueAs_26 : decode cX12_valueAs 26 = .ok (.ifCond .ne 7, 3) := by decide +kernel
theorem dX12_valueAs_29 : decode cX12_valueAs 29 = .ok (.ldc2_w 183, 3) := by decide +kernel
theorem dX12_valueAs_32 : decode cX12_valueAs 32 = .ok (.lreturn, 1) := by decide +kernel
theorem dX12_valueAs_33 : decode cX12_valueAs 33 = .ok (.aload_n 0, 1) := by decide +kernel
theorem dX12_valueAs_34 : decode cX12_valueAs 34 = .ok (.getfield 43, 3) := by decide +kernel
theorem dX12_valueAs_37 : decode cX12_valueAs 37 = .ok (.iload_n 1, 1) := by decide +kernel
theorem dX12_valueAs_38 : decode cX12_valueAs 38 = .ok (.iload_n 2, 1) := by decide +kernel
theorem dX12_valueAs_39 : decode cX12_valueAs 39 = .ok (.iload_n 3, 1) := by decide +kernel
theorem dX12_valueAs_4 : decode cX12_valueAs 4 = .ok (.iload_n 1, 1) := by decide +kernel
theorem dX12_valueAs_40 : decode cX12_valueAs 40 = .ok (.invokevirtual 185, 3) := by decide +kernel
theorem dX12_valueAs_43 : decode cX12_valueAs 43 = .ok (.istore 5, 2) := by decide +kernel
theorem dX12_valueAs_45 : decode cX12_valueAs 45 = .ok (.aload_n 0, 1) := by decide +kernel
theorem dX12_valueAs_46 : decode cX12_valueAs 46 = .ok (.getfield 43, 3) := by decide +kernel
theorem dX12_valueAs_49 : decode cX12_valueAs 49 = .ok (.iload 5, 2) := by decide +kernel
theorem dX12_valueAs_5 : decode cX12_valueAs 5 = .ok (.invokevirtual 150, 3) := by decide +kernel
theorem dX12_valueAs_51 : decode cX12_valueAs 51 = .ok (.invokevirtual 197, 3) := by decide +kernel
theorem dX12_valueAs_54 : decode cX12_valueAs 54 = .ok (.ifCond .eq 7, 3) := by decide +kernel
theorem dX12_valueAs_57 : decode cX12_valueAs 57 = .ok (.ldc2_w 200, 3) := by decide +kernel
theorem dX12_valueAs_60 : decode cX12_valueAs 60 = .ok (.lreturn, 1) := by decide +kernel
theorem dX12_valueAs_61 : decode cX12_valueAs 61 = .ok (.aload_n 0, 1) := by decide +kernel
theorem dX12_valueAs_62 : decode cX12_valueAs 62 = .ok (.getfield 43, 3) := by decide +kernel
theorem dX12_valueAs_65 : decode cX12_valueAs 65 = .ok (.getfield 202, 3) := by decide +kernel
theorem dX12_valueAs_68 : decode cX12_valueAs 68 = .ok (.iload 5, 2) := by decide +kernel
theorem dX12_valueAs_70 : decode cX12_valueAs 70 = .ok (.laload, 1) := by decide +kernel
theorem dX12_valueAs_71 : decode cX12_valueAs 71 = .ok (.l2d, 1) := by decide +kernel
theorem dX12_valueAs_72 : decode cX12_valueAs 72 = .ok (.aload_n 0, 1) := by decide +kernel
theorem dX12_valueAs_73 : decode cX12_valueAs 73 = .ok (.getfield 43, 3) := by decide +kernel
theorem dX12_valueAs_76 : decode cX12_valueAs 76 = .ok (.getfield 206, 3) := by decide +kernel
theorem dX12_valueAs_79 : decode cX12_valueAs 79 = .ok (.iload 5, 2) := by decide +kernel
theorem dX12_valueAs_8 : decode cX12_valueAs 8 = .ok (.ifCond .eq 21, 3) := by decide +kernel
theorem dX12_valueAs_81 : decode cX12_valueAs 81 = .ok (.laload, 1) := by decide +kernel
theorem dX12_valueAs_82 : decode cX12_valueAs 82 = .ok (.l2d, 1) := by decide +kernel
theorem dX12_valueAs_83 : decode cX12_valueAs 83 = .ok (.ddiv, 1) := by decide +kernel
theorem dX12_valueAs_84 : decode cX12_valueAs 84 = .ok (.dstore 6, 2) := by decide +kernel
theorem dX12_valueAs_86 : decode cX12_valueAs 86 = .ok (.iload 4, 2) := by decide +kernel
theorem dX12_valueAs_88 : decode cX12_valueAs 88 = .ok (.tableswitch 83 0 4 #[36, 44, 52, 58, 71], 36) := by decide +kernel
set_option maxRecDepth 20000 in
theorem ggX12_valueAs_X11_isMuch : GoodIn wsX12_valueAs wsX11_isMuch := goodIn_r _ [108, 61, 164, 165, 166, 167, 168, 169] rfl (by decide +kernel)
set_option maxRecDepth 40000 in
theorem ggX12_valueAs_X11_settle_0 : GoodIn wsX12_valueAs [.code yX11_settle cX11_settle 8 (some .int)] := goodIn_r _ [31] rfl (by decide +kernel)
set_option maxRecDepth 40000 in
theorem ggX12_valueAs_X11_settle_1 : GoodIn wsX12_valueAs wsX11_settle_r1 := goodIn_r _ [32, 33, 34, 35, 36, 37, 38, 39, 40, 41, 42, 43, 44, 45, 46, 14, 47, 48, 49, 50, 51, 52, 53, 54] rfl (by decide +kernel)
set_option maxRecDepth 40000 in
theorem ggX12_valueAs_X11_settle_2 : GoodIn wsX12_valueAs wsX11_settle_r2 := goodIn_r _ [55, 56, 57, 58, 30, 59, 60, 61, 62, 28, 29, 63, 64, 65, 66, 67, 68, 69, 70, 71, 72, 73, 74, 75] rfl (by decide +kernel)
set_option maxRecDepth 40000 in
theorem ggX12_valueAs_X11_settle_3 : GoodIn wsX12_valueAs wsX11_settle_r3 := goodIn_r _ [76, 77, 78, 79, 80, 81, 82, 83, 84, 85, 86, 87, 88, 89, 90, 91, 92, 93, 94, 95, 96, 97, 98, 99] rfl (by decide +kernel)
set_option maxRecDepth 40000 in
theorem ggX12_valueAs_X11_settle_4 : GoodIn wsX12_valueAs wsX11_settle_r4 := goodIn_r _ [100, 101, 102, 103, 104, 105, 106, 107, 108, 109, 110, 111, 112, 113, 114, 115, 116, 117, 118, 119, 120, 121, 122, 123] rfl (by decide +kernel)
set_option maxRecDepth 40000 in
theorem ggX12_valueAs_X11_settle_5 : GoodIn wsX12_valueAs wsX11_settle_r5 := goodIn_r _ [124, 125, 126, 127, 128, 129, 130, 131, 132] rfl (by decide +kernel)
set_option maxRecDepth 40000 in
theorem ggX12_valueAs_X11_settle_6 : GoodIn wsX12_valueAs wsX110 := goodIn_r _ [164, 165, 166, 167, 168, 169] rfl (by decide +kernel)
set_option maxRecDepth 40000 in
theorem ggX12_valueAs_X11_settle_7 : GoodIn wsX12_valueAs wsX80 := goodIn_r _ [178, 179, 180, 181, 182, 183, 184] rfl (by decide +kernel)
set_option maxRecDepth 40000 in
theorem ggX12_valueAs_X11_settle_8 : GoodIn wsX12_valueAs wsX20 := goodIn_r _ [170, 171, 172, 173, 174, 175, 176, 177] rfl (by decide +kernel)
set_option maxRecDepth 40000 in
theorem ggX12_valueAs_X11_settle : GoodIn wsX12_valueAs wsX11_settle := (goodIn_app ggX12_valueAs_X11_settle_0 (goodIn_app (goodIn_app (goodIn_app (goodIn_app ggX12_valueAs_X11_settle_1 (goodIn_app ggX12_valueAs_X11_settle_2 (goodIn_app ggX12_valueAs_X11_settle_3 (goodIn_app ggX12_valueAs_X11_settle_4 ggX12_valueAs_X11_settle_5)))) ggX12_valueAs_X11_settle_6) ggX12_valueAs_X11_settle_7) ggX12_valueAs_X11_settle_8))
set_option maxRecDepth 20000 in
theorem ggX12_valueAs_X12_isSpot : GoodIn wsX12_valueAs wsX12_isSpot := goodIn_r _ [22, 23, 24, 18, 25, 26, 17, 19] rfl (by decide +kernel)
set_option maxRecDepth 20000 in
theorem ggX12_valueAs_X12_within : GoodIn wsX12_valueAs wsX12_within := goodIn_r _ [19] rfl (by decide +kernel)
set_option maxRecDepth 20000 in
theorem ggX12_valueAs_X2_has : GoodIn wsX12_valueAs wsX2_has := goodIn_r _ [15, 16, 17, 18, 19, 170, 171, 172, 173, 174, 175, 176, 177] rfl (by decide +kernel)
set_option maxRecDepth 20000 in
theorem ggX12_valueAs_X5_doubleBits : GoodIn wsX12_valueAs wsX5_doubleBits := goodIn_r _ [148, 149, 139, 140, 136, 141, 142, 143, 144, 145] rfl (by decide +kernel)
set_option maxRecDepth 20000 in
theorem ggX12_valueAs_X5_floatBits : GoodIn wsX12_valueAs wsX5_floatBits := goodIn_r _ [137, 138, 139, 140, 136, 141, 142, 143, 144, 145] rfl (by decide +kernel)
set_option maxRecDepth 20000 in
theorem ggX12_valueAs_X5_remainder : GoodIn wsX12_valueAs wsX5_remainder := goodIn_r _ [152, 142] rfl (by decide +kernel)
set_option maxRecDepth 20000 in
theorem gX12_valueAs_X11_isMuch : GoodIn wsX12_valueAs (wsV RX12 197 RX11 yX11_isMuch wsX11_isMuch) := goodIn_app (goodIn_r _ [133, 106, 107, 30] rfl (by decide +kernel)) ggX12_valueAs_X11_isMuch
set_option maxRecDepth 20000 in
theorem gX12_valueAs_X11_settle : GoodIn wsX12_valueAs (wsV RX12 185 RX11 yX11_settle wsX11_settle) := goodIn_app (goodIn_r _ [27, 28, 29, 30] rfl (by decide +kernel)) ggX12_valueAs_X11_settle
set_option maxRecDepth 20000 in
theorem gX12_valueAs_X12_isSpot : GoodIn wsX12_valueAs (va_wsS RX12 108 yX12_isSpot wsX12_isSpot) := goodIn_app (goodIn_of _ (by decide +kernel)) ggX12_valueAs_X12_isSpot
set_option maxRecDepth 20000 in
theorem gX12_valueAs_X12_within : GoodIn wsX12_valueAs (va_wsS RX12 77 yX12_within wsX12_within) := goodIn_app (goodIn_of _ (by decide +kernel)) ggX12_valueAs_X12_within
set_option maxRecDepth 20000 in
theorem gX12_valueAs_X2_has : GoodIn wsX12_valueAs (wsV RX12 150 RX2 yX2_has wsX2_has) := goodIn_app (goodIn_r _ [11, 12, 13, 14] rfl (by decide +kernel)) ggX12_valueAs_X2_has
set_option maxRecDepth 20000 in
theorem gX12_valueAs_X5_doubleBits : GoodIn wsX12_valueAs (va_wsS RX12 217 yX5_doubleBits wsX5_doubleBits) := goodIn_app (goodIn_of _ (by decide +kernel)) ggX12_valueAs_X5_doubleBits
set_option maxRecDepth 20000 in
theorem gX12_valueAs_X5_floatBits : GoodIn wsX12_valueAs (va_wsS RX12 211 yX5_floatBits wsX5_floatBits) := goodIn_app (goodIn_of _ (by decide +kernel)) ggX12_valueAs_X5_floatBits
set_option maxRecDepth 20000 in
theorem gX12_valueAs_X5_remainder : GoodIn wsX12_valueAs (va_wsS RX12 221 yX5_remainder wsX5_remainder) := goodIn_app (goodIn_of _ (by decide +kernel)) ggX12_valueAs_X5_remainder
set_option maxRecDepth 20000 in
theorem in_X12_valueAs_X11 : ∀ w ∈ wsX110, w ∈ wsX12_valueAs := sub_r [164, 165, 166, 167, 168, 169] rfl
set_option maxRecDepth 20000 in
theorem in_X12_valueAs_X12 : ∀ w ∈ wsX120, w ∈ wsX12_valueAs := sub_r [153, 154, 155, 156, 157, 158, 159, 160, 161, 162, 163] rfl
set_option maxHeartbeats 4000000 in
set_option maxRecDepth 100000 in
theorem c_X12_valueAs (l : Launch) (D : va_G) (T : Nat → ClassId) (ad sa av : Nat → Nat) (ta : Nat) (sz : Nat) (h0 : Nat) (wo : Nat) (fs0 : List Value) (la : Nat) (cl : Nat) (p0 : Nat) (p1 : Nat) (p4 : Nat) (n : Int32) (l9 : Nat → Int32) (n0 : Int32) (c1 : Nat) (c2 : Nat) (c3 : Nat) (c4 : Nat) (c5 : Nat) (c6 : Nat) (c7 : Nat) (f1 : Nat → Int32) (f2 : Nat → Int32) (f3 : Nat → Int32) (f4 : Nat → Int32) (f5 : Nat → Int32) (g0 : Nat → Int64) (g1 : Nat → Int64) (g4 : Nat → Int32) (x1 : Int32) (x2 : Int32) (x3 : Int32) (x4 : Int32) (e0_4 : fs0[4]? = some (.ref cl)) (e0_6 : fs0[6]? = some (.ref wo)) (hn0 : 0 ≤ n0.toInt ∧ n0.toInt ≤ 24) (hok : okC f1 f3 f4 f5) (hmm : memW (VALW l9 f1 f2 f3 f4 f5) n0 n g0 g1 g4) (hlq : (1 ≤ (l9 4).toInt ∧ (l9 4).toInt ≤ 9) ∧ 1 ≤ (l9 6).toInt ∧ (l9 6).toInt ≤ 9) : MetD lw_cs l yX12_valueAs wsX12_valueAs ({ frames := 67, cells := 0, slots := 0, locals := 2197 }) (pWk [.ref h0, .int x1, .int x2, .int x3, .int x4] D T [(h0, .inr (9, fs0)), (wo, .inr (8, [.ref la, .ref cl, .ref p0, .ref p1, .ref p4, .int n])), (la, .inr (5, [.int (l9 0), .int (l9 1), .int (l9 2), .int (l9 3), .int (l9 4), .int (l9 5), .int (l9 6)])), (cl, .inr (1, [.int n0, .ref c1, .ref c2, .ref c3, .ref c4, .ref c5, .ref c6, .ref c7])), (c1, .inl (T 0, 24, .inl f1)), (c2, .inl (T 0, 24, .inl f2)), (c3, .inl (T 0, 24, .inl f3)), (c4, .inl (T 0, 24, .inl f4)), (c5, .inl (T 0, 24, .inl f5)), (p0, .inl (T 1, 676, .inr (.inl g0))), (p1, .inl (T 1, 676, .inr (.inl g1))), (p4, .inl (T 0, 672, .inl g4))] sz ad sa av ta) (va_Ql (fun (r : Int64) (u : (Nat → Int64) × (Nat → Int64) × (Nat → Int32)) => stW (VALW l9 f1 f2 f3 f4 f5) n0 n (fun _ => True) g0 g1 g4 u.1 u.2.1 u.2.2) (bW D (va_A [(h0, .inr (9, fs0)), (wo, .inr (8, [.ref la, .ref cl, .ref p0, .ref p1, .ref p4, .int n])), (la, .inr (5, [.int (l9 0), .int (l9 1), .int (l9 2), .int (l9 3), .int (l9 4), .int (l9 5), .int (l9 6)])), (cl, .inr (1, [.int n0, .ref c1, .ref c2, .ref c3, .ref c4, .ref c5, .ref c6, .ref c7])), (c1, .inl (T 0, 24, .inl f1)), (c2, .inl (T 0, 24, .inl f2)), (c3, .inl (T 0, 24, .inl f3)), (c4, .inl (T 0, 24, .inl f4)), (c5, .inl (T 0, 24, .inl f5)), (p0, .inl (T 1, 676, .inr (.inl g0))), (p1, .inl (T 1, 676, .inr (.inl g1))), (p4, .inl (T 0, 672, .inl g4))] sz) (fun (u : (Nat → Int64) × (Nat → Int64) × (Nat → Int32)) => [(h0, .inr (9, fs0)), (wo, .inr (8, [.ref la, .ref cl, .ref p0, .ref p1, .ref p4, .int n])), (la, .inr (5, [.int (l9 0), .int (l9 1), .int (l9 2), .int (l9 3), .int (l9 4), .int (l9 5), .int (l9 6)])), (cl, .inr (1, [.int n0, .ref c1, .ref c2, .ref c3, .ref c4, .ref c5, .ref c6, .ref c7])), (c1, .inl (T 0, 24, .inl f1)), (c2, .inl (T 0, 24, .inl f2)), (c3, .inl (T 0, 24, .inl f3)), (c4, .inl (T 0, 24, .inl f4)), (c5, .inl (T 0, 24, .inl f5)), (p0, .inl (T 1, 676, .inr (.inl u.1))), (p1, .inl (T 1, 676, .inr (.inl u.2.1))), (p4, .inl (T 0, 672, .inl u.2.2))])) (va_A [(h0, .inr (9, fs0)), (wo, .inr (8, [.ref la, .ref cl, .ref p0, .ref p1, .ref p4, .int n])), (la, .inr (5, [.int (l9 0), .int (l9 1), .int (l9 2), .int (l9 3), .int (l9 4), .int (l9 5), .int (l9 6)])), (cl, .inr (1, [.int n0, .ref c1, .ref c2, .ref c3, .ref c4, .ref c5, .ref c6, .ref c7])), (c1, .inl (T 0, 24, .inl f1)), (c2, .inl (T 0, 24, .inl f2)), (c3, .inl (T 0, 24, .inl f3)), (c4, .inl (T 0, 24, .inl f4)), (c5, .inl (T 0, 24, .inl f5)), (p0, .inl (T 1, 676, .inr (.inl g0))), (p1, .inl (T 1, 676, .inr (.inl g1))), (p4, .inl (T 0, 672, .inl g4))] sz)) 0 0 (va_A [(h0, .inr (9, fs0)), (wo, .inr (8, [.ref la, .ref cl, .ref p0, .ref p1, .ref p4, .int n])), (la, .inr (5, [.int (l9 0), .int (l9 1), .int (l9 2), .int (l9 3), .int (l9 4), .int (l9 5), .int (l9 6)])), (cl, .inr (1, [.int n0, .ref c1, .ref c2, .ref c3, .ref c4, .ref c5, .ref c6, .ref c7])), (c1, .inl (T 0, 24, .inl f1)), (c2, .inl (T 0, 24, .inl f2)), (c3, .inl (T 0, 24, .inl f3)), (c4, .inl (T 0, 24, .inl f4)), (c5, .inl (T 0, 24, .inl f5)), (p0, .inl (T 1, 676, .inr (.inl g0))), (p1, .inl (T 1, 676, .inr (.inl g1))), (p4, .inl (T 0, 672, .inl g4))] sz) := by
  refine MetD.ofW (cc := cX12_valueAs) (maxL := 8) (ret := (some .long)) (by decide +kernel) rfl ?_
  intro p e s m args below meth c s₁ B hml hv hd0
  obtain ⟨rfl, hsz, hP, hE0, hD0, hV0⟩ := hv
  have hx := B.exec
  have hb := B.bytes
  have hr := B.returns
  have hts0 := atoms_spec (ws := wsX12_valueAs) B.pre
  have hown0 : s.vm.findClass RX12 = some m.cls := findClass_of_methodNamed B.named
  have hlocks := B.notSynchronized
  subst hsz
  have hD := hD0.self (sz := s.heap.size)
  generalize hAe : va_A [(h0, .inr (9, fs0)), (wo, .inr (8, [.ref la, .ref cl, .ref p0, .ref p1, .ref p4, .int n])), (la, .inr (5, [.int (l9 0), .int (l9 1), .int (l9 2), .int (l9 3), .int (l9 4), .int (l9 5), .int (l9 6)])), (cl, .inr (1, [.int n0, .ref c1, .ref c2, .ref c3, .ref c4, .ref c5, .ref c6, .ref c7])), (c1, .inl (T 0, 24, .inl f1)), (c2, .inl (T 0, 24, .inl f2)), (c3, .inl (T 0, 24, .inl f3)), (c4, .inl (T 0, 24, .inl f4)), (c5, .inl (T 0, 24, .inl f5)), (p0, .inl (T 1, 676, .inr (.inl g0))), (p1, .inl (T 1, 676, .inr (.inl g1))), (p4, .inl (T 0, 672, .inl g4))] s.heap.size = A at hD hV0 ⊢
  have hA : ∀ q : Nat, s.heap.size ≤ q → A q := fun q h => by rw [← hAe]; exact Or.inr h
  have hS : va_S A s.heap s.heap [] := va_S.rf
  have hP : va_P D vwCl [(h0, .inr (9, fs0)), (wo, .inr (8, [.ref la, .ref cl, .ref p0, .ref p1, .ref p4, .int n])), (la, .inr (5, [.int (l9 0), .int (l9 1), .int (l9 2), .int (l9 3), .int (l9 4), .int (l9 5), .int (l9 6)])), (cl, .inr (1, [.int n0, .ref c1, .ref c2, .ref c3, .ref c4, .ref c5, .ref c6, .ref c7])), (c1, .inl (T 0, 24, .inl f1)), (c2, .inl (T 0, 24, .inl f2)), (c3, .inl (T 0, 24, .inl f3)), (c4, .inl (T 0, 24, .inl f4)), (c5, .inl (T 0, 24, .inl f5)), (p0, .inl (T 1, 676, .inr (.inl g0))), (p1, .inl (T 1, 676, .inr (.inl g1))), (p4, .inl (T 0, 672, .inl g4))] s.heap := hP
  have hl := lv_entry ([.ref h0, .int x1, .int x2, .int x3, .int x4]) (n := 8) (Nat.le_of_ble_eq_true rfl)
  rw [lg_entry_eq]
  generalize (lg_sl ([.ref h0, .int x1, .int x2, .int x3, .int x4]) ++ List.replicate (8 - (lg_sl ([.ref h0, .int x1, .int x2, .int x3, .int x4])).length) Slot.unset).toArray = ls at hl ⊢
  have hl : lv_has ls 8 [(0, .ref h0), (1, .int x1), (2, .int x2), (3, .int x3), (4, .int x4)] := hl
  clear hD0
  have hts := dr_words hts0 s.drawn
  have hE : ekK D T (s.setDrawn s.drawn) := ekK.same (u := s) rfl hE0
  have hown : (s.setDrawn s.drawn).vm.findClass RX12 = some m.cls := hown0
  have hV : evK ad sa av ta A (s.setDrawn s.drawn) (s.setDrawn s.drawn).heap := evK.same (u := s) rfl hV0
  have hst : stW (VALW l9 f1 f2 f3 f4 f5) n0 n (fun _ => True) g0 g1 g4 g0 g1 g4 := stW_rf hmm
  refine lv_aload_n hx hb dX12_valueAs_0 rfl (lv_at hl 0 rfl) ?_
  refine va_get (D := D) (ci := 9) (v := .ref cl) (C := RX12) (T := TX12) (N := 11) hx hb hts in_X12_valueAs_X12 hown hE.1 hP 0 rfl rfl 4 (by decide +kernel) (hts (.fieldLink RX12 32 "ClauseBook" "clauses" "LClauseBook$Clauses;") (List.mem_of_getElem? (i := 1) rfl)) (fun _ h9 => h9) e0_4 dX12_valueAs_1 ?_
  refine lv_iload_n hx hb dX12_valueAs_4 rfl (lv_at hl 1 rfl) ?_
  refine vp_callSi (W.runV (As := [.int x1]) (rest := []) ⟨hx, hb, hml, hown, hts⟩ (c_X2_has l D T cl [.int n0, .ref c1, .ref c2, .ref c3, .ref c4, .ref c5, .ref c6, .ref c7] x1 n0 rfl (by omega)) (cwV 1 hts gX12_valueAs_X2_has rfl rfl rfl hv_X2_has ⟨Nat.le_of_ble_eq_true rfl, Nat.le_of_ble_eq_true rfl⟩) (pR_V (q := (RX2, TX2, 8)) (ci := 1) (q0 := 3) hP hE rfl rfl [3] rfl) rfl rfl hl.1 rfl (lv_room (Nat.le_of_ble_eq_true rfl)) dX12_valueAs_5 ⟨Nat.le_of_ble_eq_true rfl, Nat.le_of_ble_eq_true rfl⟩) (fun r_1 hr_1 => ?_)
  rcases bool_post hr_1 with ⟨c_2, rfl⟩ | ⟨c_2, rfl⟩
  · refine lv_if_eq (tgt := 29) hx hb dX12_valueAs_8 (by decide +kernel) (fun c9 => absurd c9 (by decide +kernel)) (fun _ => ?_)
    refine lv_iload_n hx hb dX12_valueAs_11 rfl (lv_at hl 2 rfl) ?_
    refine lv_iload_n hx hb dX12_valueAs_12 rfl (lv_at hl 3 rfl) ?_
    refine vp_callSi (W.runS (As := [.int x2, .int x3]) (rest := []) ⟨hx, hb, hml, hown, hts⟩ (c_X12_isSpot l D T x2 x3) (va_cwS 2 hts gX12_valueAs_X12_isSpot rfl rfl rfl hs_X12_isSpot ⟨Nat.le_of_ble_eq_true rfl, Nat.le_of_ble_eq_true rfl⟩) (pR_S hP hE [] rfl) rfl rfl hl.1 rfl (lv_room (Nat.le_of_ble_eq_true rfl)) dX12_valueAs_13 ⟨Nat.le_of_ble_eq_true rfl, Nat.le_of_ble_eq_true rfl⟩) (fun r_3 hr_3 => ?_)
    rcases bool_post hr_3 with ⟨c_4, rfl⟩ | ⟨c_4, rfl⟩
    · refine lv_if_eq (tgt := 29) hx hb dX12_valueAs_16 (by decide +kernel) (fun c9 => absurd c9 (by decide +kernel)) (fun _ => ?_)
      refine lv_iload hx hb dX12_valueAs_19 (lv_at hl 4 rfl) ?_
      refine lv_iconst (v := 0) hx hb dX12_valueAs_21 (by decide +kernel) ?_
      refine lv_iconst (v := 5) hx hb dX12_valueAs_22 (by decide +kernel) ?_
      refine vp_callSi (W.runS (As := [.int x4, .int 0, .int 5]) (rest := []) ⟨hx, hb, hml, hown, hts⟩ (c_X12_within l D T x4 0 5 0 5 (by decide +kernel) (by decide +kernel)) (va_cwS 3 hts gX12_valueAs_X12_within rfl rfl rfl hs_X12_within ⟨Nat.le_of_ble_eq_true rfl, Nat.le_of_ble_eq_true rfl⟩) (pR_S hP hE [] rfl) rfl rfl hl.1 rfl (lv_room (Nat.le_of_ble_eq_true rfl)) dX12_valueAs_23 ⟨Nat.le_of_ble_eq_true rfl, Nat.le_of_ble_eq_true rfl⟩) (fun r_5 hr_5 => ?_)
      rcases bool_post hr_5 with ⟨c_6, rfl⟩ | ⟨c_6, rfl⟩
      · refine lv_if_ne (tgt := 33) hx hb dX12_valueAs_26 (by decide +kernel) (fun _ => ?_) (fun c9 => absurd c9 (by decide +kernel))
        refine lv_aload_n hx hb dX12_valueAs_33 rfl (lv_at hl 0 rfl) ?_
        refine va_get (D := D) (ci := 9) (v := .ref wo) (C := RX12) (T := TX12) (N := 11) hx hb hts in_X12_valueAs_X12 hown hE.1 hP 0 rfl rfl 6 (by decide +kernel) (hts (.fieldLink RX12 43 "ClauseBook" "worth" "LClauseBook$Worth;") (List.mem_of_getElem? (i := 3) rfl)) (fun _ h9 => h9) e0_6 dX12_valueAs_34 ?_
        refine lv_iload_n hx hb dX12_valueAs_37 rfl (lv_at hl 1 rfl) ?_
        refine lv_iload_n hx hb dX12_valueAs_38 rfl (lv_at hl 2 rfl) ?_
        refine lv_iload_n hx hb dX12_valueAs_39 rfl (lv_at hl 3 rfl) ?_
        have hFc := va_free (wc := [(wo, .inr (8, [.ref la, .ref cl, .ref p0, .ref p1, .ref p4, .int n])), (la, .inr (5, [.int (l9 0), .int (l9 1), .int (l9 2), .int (l9 3), .int (l9 4), .int (l9 5), .int (l9 6)])), (cl, .inr (1, [.int n0, .ref c1, .ref c2, .ref c3, .ref c4, .ref c5, .ref c6, .ref c7])), (c1, .inl (T 0, 24, .inl f1)), (c2, .inl (T 0, 24, .inl f2)), (c3, .inl (T 0, 24, .inl f3)), (c4, .inl (T 0, 24, .inl f4)), (c5, .inl (T 0, 24, .inl f5)), (p0, .inl (T 1, 676, .inr (.inl g0))), (p1, .inl (T 1, 676, .inr (.inl g1))), (p4, .inl (T 0, 672, .inl g4))]) hD hS hA [1, 2, 3, 4, 5, 6, 7, 8, 9, 10, 11] rfl
        refine va_calli (va_runV (As := [.int x1, .int x2, .int x3]) (rest := []) ⟨hx, hb, hml, hown, hts⟩ (cS_all l D T ad sa av ta 30 _ wo la cl p0 p1 p4 n l9 n0 c1 c2 c3 c4 c5 c6 c7 f1 f2 f3 f4 f5 g0 g1 g4 x1 x2 x3 (by omega) (by omega) (by omega) hok (by omega) hmm hlq (by omega)) (cwV 3 hts gX12_valueAs_X11_settle rfl rfl rfl hv_X11_settle ⟨Nat.le_of_ble_eq_true rfl, Nat.le_of_ble_eq_true rfl⟩) (pWk_V (q := (RX11, TX11, 6)) (ci := 8) (q0 := 1) hP hE hD hV hS hFc rfl rfl [1, 2, 3, 4, 5, 6, 7, 8, 9, 10, 11] (by decide +kernel) rfl rfl) rfl rfl hl.1 rfl (lv_room (Nat.le_of_ble_eq_true rfl)) dX12_valueAs_40 ⟨Nat.le_of_ble_eq_true rfl, Nat.le_of_ble_eq_true rfl⟩) hS (fun q _ h => hFc q h) hFc (fun r_7 u_8 t H1 locs ht hvm hr_7 hB hz1 hk1 hS => ?_)
        obtain ⟨f_9, f_10, f_11⟩ := u_8
        obtain ⟨hqr_7, hsl_r_7, hfo_r_7, hstr_7⟩ := hr_7
        have hqr_7 : 0 ≤ r_7.toInt ∧ r_7.toInt < 672 := hqr_7
        have hsl_r_7 : r_7.toNatClampNeg = slN x1 x2 x3 := hsl_r_7
        have hfo_r_7 : f_11 (slN x1 x2 x3) = n := hfo_r_7
        have hsr_7 : stW (VALW l9 f1 f2 f3 f4 f5) n0 n (rgW x1 x2) g0 g1 g4 f_9 f_10 f_11 := hstr_7
        have hst : stW (VALW l9 f1 f2 f3 f4 f5) n0 n (fun _ => True) g0 g1 g4 f_9 f_10 f_11 := hst.tr hsr_7 (fun _ _ => trivial)
        have hmm : memW (VALW l9 f1 f2 f3 f4 f5) n0 n f_9 f_10 f_11 := hst.1
        have hv_r_7 : (f_9 (r_7.toNatClampNeg), f_10 (r_7.toNatClampNeg)) = (VALW l9 f1 f2 f3 f4 f5) x1 x2 x3 := hst.val (by omega) (by omega) (by first | omega | (rw [ti_0]; omega)) hsl_r_7 hfo_r_7
        have hb_r_7 : 0 ≤ (f_10 (r_7.toNatClampNeg)).toInt := val_nn (VAL_low hlq.1 hlq.2 31 _ _ _) hv_r_7
        obtain ⟨hP1, hD1⟩ := hB
        rw [ht] at hP1
        obtain ⟨hP, hD⟩ := va_repl [(h0, .inr (9, fs0)), (wo, .inr (8, [.ref la, .ref cl, .ref p0, .ref p1, .ref p4, .int n])), (la, .inr (5, [.int (l9 0), .int (l9 1), .int (l9 2), .int (l9 3), .int (l9 4), .int (l9 5), .int (l9 6)])), (cl, .inr (1, [.int n0, .ref c1, .ref c2, .ref c3, .ref c4, .ref c5, .ref c6, .ref c7])), (c1, .inl (T 0, 24, .inl f1)), (c2, .inl (T 0, 24, .inl f2)), (c3, .inl (T 0, 24, .inl f3)), (c4, .inl (T 0, 24, .inl f4)), (c5, .inl (T 0, 24, .inl f5)), (p0, .inl (T 1, 676, .inr (.inl f_9))), (p1, .inl (T 1, 676, .inr (.inl f_10))), (p4, .inl (T 0, 672, .inl f_11))] hP hD [1, 2, 3, 4, 5, 6, 7, 8, 9, 10, 11] [1, 2, 3, 4, 5, 6, 7, 8, 9, 10, 11] rfl (by decide +kernel) rfl rfl rfl hk1 hP1
        clear hP1 hD1 hFc
        generalize H1 = H at hP hS ⊢
        refine lv_istore (lv' := [(5, .int r_7), (0, .ref h0), (1, .int x1), (2, .int x2), (3, .int x3), (4, .int x4)]) hx hb dX12_valueAs_43 hl (by decide +kernel) rfl (fun ls hl => ?_)
        refine lv_aload_n hx hb dX12_valueAs_45 rfl (lv_at hl 1 rfl) ?_
        refine va_get (D := D) (ci := 9) (v := .ref wo) (C := RX12) (T := TX12) (N := 11) hx hb hts in_X12_valueAs_X12 hown hE.1 hP 0 rfl rfl 6 (by decide +kernel) (hts (.fieldLink RX12 43 "ClauseBook" "worth" "LClauseBook$Worth;") (List.mem_of_getElem? (i := 3) rfl)) (fun _ h9 => h9) e0_6 dX12_valueAs_46 ?_
        refine lv_iload hx hb dX12_valueAs_49 (lv_at hl 0 rfl) ?_
        refine vp_callSi (W.runV (As := [.int r_7]) (rest := []) ⟨hx, hb, hml, hown, hts⟩ (c_X11_isMuch l D T wo [.ref la, .ref cl, .ref p0, .ref p1, .ref p4, .int n] p1 f_10 r_7 rfl (by first | decide | omega)) (cwV 1 hts gX12_valueAs_X11_isMuch rfl rfl rfl hv_X11_isMuch ⟨Nat.le_of_ble_eq_true rfl, Nat.le_of_ble_eq_true rfl⟩) (pR_V (q := (RX11, TX11, 6)) (ci := 8) (q0 := 1) hP hE rfl rfl [1, 10] rfl) rfl rfl hl.1 rfl (lv_room (Nat.le_of_ble_eq_true rfl)) dX12_valueAs_51 ⟨Nat.le_of_ble_eq_true rfl, Nat.le_of_ble_eq_true rfl⟩) (fun r_12 hr_12 => ?_)
        rcases bool_post hr_12 with ⟨c_13, rfl⟩ | ⟨c_13, rfl⟩
        · refine lv_if_eq (tgt := 61) hx hb dX12_valueAs_54 (by decide +kernel) (fun c9 => absurd c9 (by decide +kernel)) (fun _ => ?_)
          refine lv_ldc2 (v := (-4611686018427387909)) hx hb hown (hts (.constantLong RX12 200 (-4611686018427387909)) (List.mem_of_getElem? (i := 4) rfl)) dX12_valueAs_57 ?_
          refine W.endD hd0 ?_
          exact W.lret hx hb hr (fun t ht hW => ⟨⟨_, (f_9, f_10, f_11), rfl, hst, by rw [ht]; exact hP.sub [0, 1, 2, 3, 4, 5, 6, 7, 8, 9, 10, 11] rfl, hD.sub [0, 1, 2, 3, 4, 5, 6, 7, 8, 9, 10, 11] (by decide +kernel) rfl⟩, hS.F ht⟩) hS.2.2 dX12_valueAs_60
        · refine lv_if_eq (tgt := 61) hx hb dX12_valueAs_54 (by decide +kernel) (fun _ => ?_) (fun c9 => absurd c9 (by decide +kernel))
          refine lv_aload_n hx hb dX12_valueAs_61 rfl (lv_at hl 1 rfl) ?_
          refine va_get (D := D) (ci := 9) (v := .ref wo) (C := RX12) (T := TX12) (N := 11) hx hb hts in_X12_valueAs_X12 hown hE.1 hP 0 rfl rfl 6 (by decide +kernel) (hts (.fieldLink RX12 43 "ClauseBook" "worth" "LClauseBook$Worth;") (List.mem_of_getElem? (i := 3) rfl)) (fun _ h9 => h9) e0_6 dX12_valueAs_62 ?_
          refine va_get (D := D) (ci := 8) (v := .ref p0) (C := RX11) (T := TX11) (N := 6) hx hb hts in_X12_valueAs_X11 hown hE.1 hP 1 rfl rfl 2 (by decide +kernel) (hts (.fieldLink RX12 202 "ClauseBook$Worth" "above" "[J") (List.mem_of_getElem? (i := 5) rfl)) (fun _ h9 => h9) rfl dX12_valueAs_65 ?_
          refine lv_iload hx hb dX12_valueAs_68 (lv_at hl 0 rfl) ?_
          refine va_lald hx hb hE.1 hP 9 1 rfl rfl (by rw [vp_in_iff]; first | omega | (subst_vars; omega)) dX12_valueAs_70 ?_
          refine lv_topl (fun z_14 ez_14 => ?_)
          refine lv_l2d hx hb dX12_valueAs_71 ?_
          refine lv_aload_n hx hb dX12_valueAs_72 rfl (lv_at hl 1 rfl) ?_
          refine va_get (D := D) (ci := 9) (v := .ref wo) (C := RX12) (T := TX12) (N := 11) hx hb hts in_X12_valueAs_X12 hown hE.1 hP 0 rfl rfl 6 (by decide +kernel) (hts (.fieldLink RX12 43 "ClauseBook" "worth" "LClauseBook$Worth;") (List.mem_of_getElem? (i := 3) rfl)) (fun _ h9 => h9) e0_6 dX12_valueAs_73 ?_
          refine va_get (D := D) (ci := 8) (v := .ref p1) (C := RX11) (T := TX11) (N := 6) hx hb hts in_X12_valueAs_X11 hown hE.1 hP 1 rfl rfl 3 (by decide +kernel) (hts (.fieldLink RX12 206 "ClauseBook$Worth" "below" "[J") (List.mem_of_getElem? (i := 6) rfl)) (fun _ h9 => h9) rfl dX12_valueAs_76 ?_
          refine lv_iload hx hb dX12_valueAs_79 (lv_at hl 0 rfl) ?_
          refine va_lald hx hb hE.1 hP 10 1 rfl rfl (by rw [vp_in_iff]; first | omega | (subst_vars; omega)) dX12_valueAs_81 ?_
          refine lv_topl (fun z_15 ez_15 => ?_)
          refine lv_l2d hx hb dX12_valueAs_82 ?_
          refine lv_ddiv_any hd0 lw_bits hx hb dX12_valueAs_83 (fun r_16 d_17 _ hd_17 => ?_)
          have hts := dr_words hts0 d_17
          have hE : ekK D T (s.setDrawn d_17) := ekK.same (u := s) rfl hE0
          have hown : (s.setDrawn d_17).vm.findClass RX12 = some m.cls := hown0
          have hV : evK ad sa av ta A (s.setDrawn d_17) (s.setDrawn d_17).heap := evK.same (u := s) rfl hV0
          refine lv_dstore (lv' := [(6, .double r_16), (5, .int r_7), (0, .ref h0), (1, .int x1), (2, .int x2), (3, .int x3), (4, .int x4)]) hx hb dX12_valueAs_84 hl (by decide +kernel) rfl (fun ls hl => ?_)
          refine lv_iload hx hb dX12_valueAs_86 (lv_at hl 6 rfl) ?_
          by_cases k_18 : x4 = 0
          · subst k_18
            refine lv_tableIn (off := 36) (tgt := 124) hx hb dX12_valueAs_88 (by decide +kernel) (by decide +kernel) (by decide +kernel) (by decide +kernel) ?_
            refine lv_dload hx hb dX12_valueAs_124 (lv_at hl 0 rfl) ?_
            refine lv_ldc2d (v := 4636737291354636288) hx hb hown (hts (.constantDouble RX12 209 (4636737291354636288)) (List.mem_of_getElem? (i := 7) rfl)) dX12_valueAs_126 ?_
            refine lv_dmul_any hd_17 lw_bits hx hb dX12_valueAs_129 (fun r_19 d_20 _ hd_20 => ?_)
            have hts := dr_words hts0 d_20
            have hE : ekK D T (s.setDrawn d_20) := ekK.same (u := s) rfl hE0
            have hown : (s.setDrawn d_20).vm.findClass RX12 = some m.cls := hown0
            have hV : evK ad sa av ta A (s.setDrawn d_20) (s.setDrawn d_20).heap := evK.same (u := s) rfl hV0
            refine lv_d2l hx hb dX12_valueAs_130 ?_
            refine lv_topl (fun z_21 ez_21 => ?_)
            refine W.endD hd_20 ?_
            exact W.lret hx hb hr (fun t ht hW => ⟨⟨_, (f_9, f_10, f_11), rfl, hst, by rw [ht]; exact hP.sub [0, 1, 2, 3, 4, 5, 6, 7, 8, 9, 10, 11] rfl, hD.sub [0, 1, 2, 3, 4, 5, 6, 7, 8, 9, 10, 11] (by decide +kernel) rfl⟩, hS.F ht⟩) hS.2.2 dX12_valueAs_131
          by_cases k_22 : x4 = 1
          · subst k_22
            refine lv_tableIn (off := 44) (tgt := 132) hx hb dX12_valueAs_88 (by decide +kernel) (by decide +kernel) (by decide +kernel) (by decide +kernel) ?_
            refine lv_dload hx hb dX12_valueAs_132 (lv_at hl 0 rfl) ?_
            refine lv_d2f_any hd_17 lw_bits hx hb dX12_valueAs_134 (fun r_23 d_24 _ hd_24 => ?_)
            have hts := dr_words hts0 d_24
            have hE : ekK D T (s.setDrawn d_24) := ekK.same (u := s) rfl hE0
            have hown : (s.setDrawn d_24).vm.findClass RX12 = some m.cls := hown0
            have hV : evK ad sa av ta A (s.setDrawn d_24) (s.setDrawn d_24).heap := evK.same (u := s) rfl hV0
            have hFc := va_free (wc := []) hD hS hA [] rfl
            refine va_calliD hd_24 (va_runS_D (As := [.float r_23]) (rest := []) ⟨hx, hb, hml, hown, hts⟩ (c_X5_floatBits l D T _ r_23) (va_cwS 1 hts gX12_valueAs_X5_floatBits rfl rfl rfl hs_X5_floatBits ⟨Nat.le_of_ble_eq_true rfl, Nat.le_of_ble_eq_true rfl⟩) (pW_S hP hE hD [] (by decide +kernel) rfl rfl) rfl rfl hl.1 rfl (lv_room (Nat.le_of_ble_eq_true rfl)) dX12_valueAs_135 ⟨Nat.le_of_ble_eq_true rfl, Nat.le_of_ble_eq_true rfl⟩) hS (fun q _ h => hFc q h) hFc (fun r_25 u_26 t H1 locs ht hvm hr_25 hB hz1 hk1 hS d_27 hd_27 => ?_)
            have hts := dr_words hts0 d_27
            have hE : ekK D T (s.setDrawn d_27) := ekK.same (u := s) rfl hE0
            have hown : (s.setDrawn d_27).vm.findClass RX12 = some m.cls := hown0
            have hV : evK ad sa av ta A (s.setDrawn d_27) (s.setDrawn d_27).heap := evK.same (u := s) rfl hV0
            obtain ⟨hP1, hD1⟩ := hB
            rw [ht] at hP1
            obtain ⟨hP, hD⟩ := va_repl [(h0, .inr (9, fs0)), (wo, .inr (8, [.ref la, .ref cl, .ref p0, .ref p1, .ref p4, .int n])), (la, .inr (5, [.int (l9 0), .int (l9 1), .int (l9 2), .int (l9 3), .int (l9 4), .int (l9 5), .int (l9 6)])), (cl, .inr (1, [.int n0, .ref c1, .ref c2, .ref c3, .ref c4, .ref c5, .ref c6, .ref c7])), (c1, .inl (T 0, 24, .inl f1)), (c2, .inl (T 0, 24, .inl f2)), (c3, .inl (T 0, 24, .inl f3)), (c4, .inl (T 0, 24, .inl f4)), (c5, .inl (T 0, 24, .inl f5)), (p0, .inl (T 1, 676, .inr (.inl f_9))), (p1, .inl (T 1, 676, .inr (.inl f_10))), (p4, .inl (T 0, 672, .inl f_11))] hP hD [] [] rfl (by decide +kernel) rfl rfl rfl hk1 hP1
            clear hP1 hD1 hFc
            generalize H1 = H at hP hS ⊢
            refine lv_i2l hx hb dX12_valueAs_138 rfl ?_
            refine W.endD hd_27 ?_
            exact W.lret hx hb hr (fun t ht hW => ⟨⟨_, (f_9, f_10, f_11), rfl, hst, by rw [ht]; exact hP.sub [0, 1, 2, 3, 4, 5, 6, 7, 8, 9, 10, 11] rfl, hD.sub [0, 1, 2, 3, 4, 5, 6, 7, 8, 9, 10, 11] (by decide +kernel) rfl⟩, hS.F ht⟩) hS.2.2 dX12_valueAs_139
          by_cases k_28 : x4 = 2
          · subst k_28
            refine lv_tableIn (off := 52) (tgt := 140) hx hb dX12_valueAs_88 (by decide +kernel) (by decide +kernel) (by decide +kernel) (by decide +kernel) ?_
            refine lv_dload hx hb dX12_valueAs_140 (lv_at hl 0 rfl) ?_
            have hFc := va_free (wc := []) hD hS hA [] rfl
            refine va_calllD hd_17 (va_runS_D (As := [.double r_16]) (rest := []) ⟨hx, hb, hml, hown, hts⟩ (c_X5_doubleBits l D T _ r_16) (va_cwS 1 hts gX12_valueAs_X5_doubleBits rfl rfl rfl hs_X5_doubleBits ⟨Nat.le_of_ble_eq_true rfl, Nat.le_of_ble_eq_true rfl⟩) (pW_S hP hE hD [] (by decide +kernel) rfl rfl) rfl rfl hl.1 rfl (lv_room (Nat.le_of_ble_eq_true rfl)) dX12_valueAs_142 ⟨Nat.le_of_ble_eq_true rfl, Nat.le_of_ble_eq_true rfl⟩) hS (fun q _ h => hFc q h) hFc (fun r_29 u_30 t H1 locs ht hvm hr_29 hB hz1 hk1 hS d_31 hd_31 => ?_)
            have hts := dr_words hts0 d_31
            have hE : ekK D T (s.setDrawn d_31) := ekK.same (u := s) rfl hE0
            have hown : (s.setDrawn d_31).vm.findClass RX12 = some m.cls := hown0
            have hV : evK ad sa av ta A (s.setDrawn d_31) (s.setDrawn d_31).heap := evK.same (u := s) rfl hV0
            obtain ⟨hP1, hD1⟩ := hB
            rw [ht] at hP1
            obtain ⟨hP, hD⟩ := va_repl [(h0, .inr (9, fs0)), (wo, .inr (8, [.ref la, .ref cl, .ref p0, .ref p1, .ref p4, .int n])), (la, .inr (5, [.int (l9 0), .int (l9 1), .int (l9 2), .int (l9 3), .int (l9 4), .int (l9 5), .int (l9 6)])), (cl, .inr (1, [.int n0, .ref c1, .ref c2, .ref c3, .ref c4, .ref c5, .ref c6, .ref c7])), (c1, .inl (T 0, 24, .inl f1)), (c2, .inl (T 0, 24, .inl f2)), (c3, .inl (T 0, 24, .inl f3)), (c4, .inl (T 0, 24, .inl f4)), (c5, .inl (T 0, 24, .inl f5)), (p0, .inl (T 1, 676, .inr (.inl f_9))), (p1, .inl (T 1, 676, .inr (.inl f_10))), (p4, .inl (T 0, 672, .inl f_11))] hP hD [] [] rfl (by decide +kernel) rfl rfl rfl hk1 hP1
            clear hP1 hD1 hFc
            generalize H1 = H at hP hS ⊢
            refine W.endD hd_31 ?_
            exact W.lret hx hb hr (fun t ht hW => ⟨⟨_, (f_9, f_10, f_11), rfl, hst, by rw [ht]; exact hP.sub [0, 1, 2, 3, 4, 5, 6, 7, 8, 9, 10, 11] rfl, hD.sub [0, 1, 2, 3, 4, 5, 6, 7, 8, 9, 10, 11] (by decide +kernel) rfl⟩, hS.F ht⟩) hS.2.2 dX12_valueAs_145
          by_cases k_32 : x4 = 3
          · subst k_32
            refine lv_tableIn (off := 58) (tgt := 146) hx hb dX12_valueAs_88 (by decide +kernel) (by decide +kernel) (by decide +kernel) (by decide +kernel) ?_
            refine lv_dload hx hb dX12_valueAs_146 (lv_at hl 0 rfl) ?_
            refine lv_dconst1 hx hb dX12_valueAs_148 ?_
            have hFc := va_free (wc := []) hD hS hA [] rfl
            refine va_calldD hd_17 (va_runS_D (As := [.double r_16, .double FP.dconst1]) (rest := []) ⟨hx, hb, hml, hown, hts⟩ (c_X5_remainder l D T _ r_16 FP.dconst1) (va_cwS 2 hts gX12_valueAs_X5_remainder rfl rfl rfl hs_X5_remainder ⟨Nat.le_of_ble_eq_true rfl, Nat.le_of_ble_eq_true rfl⟩) (pW_S hP hE hD [] (by decide +kernel) rfl rfl) rfl rfl hl.1 rfl (lv_room (Nat.le_of_ble_eq_true rfl)) dX12_valueAs_149 ⟨Nat.le_of_ble_eq_true rfl, Nat.le_of_ble_eq_true rfl⟩) hS (fun q _ h => hFc q h) hFc (fun r_33 u_34 t H1 locs ht hvm hr_33 hB hz1 hk1 hS d_35 hd_35 => ?_)
            have hts := dr_words hts0 d_35
            have hE : ekK D T (s.setDrawn d_35) := ekK.same (u := s) rfl hE0
            have hown : (s.setDrawn d_35).vm.findClass RX12 = some m.cls := hown0
            have hV : evK ad sa av ta A (s.setDrawn d_35) (s.setDrawn d_35).heap := evK.same (u := s) rfl hV0
            obtain ⟨hP1, hD1⟩ := hB
            rw [ht] at hP1
            obtain ⟨hP, hD⟩ := va_repl [(h0, .inr (9, fs0)), (wo, .inr (8, [.ref la, .ref cl, .ref p0, .ref p1, .ref p4, .int n])), (la, .inr (5, [.int (l9 0), .int (l9 1), .int (l9 2), .int (l9 3), .int (l9 4), .int (l9 5), .int (l9 6)])), (cl, .inr (1, [.int n0, .ref c1, .ref c2, .ref c3, .ref c4, .ref c5, .ref c6, .ref c7])), (c1, .inl (T 0, 24, .inl f1)), (c2, .inl (T 0, 24, .inl f2)), (c3, .inl (T 0, 24, .inl f3)), (c4, .inl (T 0, 24, .inl f4)), (c5, .inl (T 0, 24, .inl f5)), (p0, .inl (T 1, 676, .inr (.inl f_9))), (p1, .inl (T 1, 676, .inr (.inl f_10))), (p4, .inl (T 0, 672, .inl f_11))] hP hD [] [] rfl (by decide +kernel) rfl rfl rfl hk1 hP1
            clear hP1 hD1 hFc
            generalize H1 = H at hP hS ⊢
            refine lv_ldc2d (v := 4652007308841189376) hx hb hown (hts (.constantDouble RX12 225 (4652007308841189376)) (List.mem_of_getElem? (i := 8) rfl)) dX12_valueAs_152 ?_
            refine lv_dmul_any hd_35 lw_bits hx hb dX12_valueAs_155 (fun r_36 d_37 _ hd_37 => ?_)
            have hts := dr_words hts0 d_37
            have hE : ekK D T (s.setDrawn d_37) := ekK.same (u := s) rfl hE0
            have hown : (s.setDrawn d_37).vm.findClass RX12 = some m.cls := hown0
            have hV : evK ad sa av ta A (s.setDrawn d_37) (s.setDrawn d_37).heap := evK.same (u := s) rfl hV0
            refine lv_d2i hx hb dX12_valueAs_156 ?_
            refine lv_topi (fun z_38 ez_38 => ?_)
            refine lv_i2l hx hb dX12_valueAs_157 rfl ?_
            refine W.endD hd_37 ?_
            exact W.lret hx hb hr (fun t ht hW => ⟨⟨_, (f_9, f_10, f_11), rfl, hst, by rw [ht]; exact hP.sub [0, 1, 2, 3, 4, 5, 6, 7, 8, 9, 10, 11] rfl, hD.sub [0, 1, 2, 3, 4, 5, 6, 7, 8, 9, 10, 11] (by decide +kernel) rfl⟩, hS.F ht⟩) hS.2.2 dX12_valueAs_158
          by_cases k_39 : x4 = 4
          · subst k_39
            refine lv_tableIn (off := 71) (tgt := 159) hx hb dX12_valueAs_88 (by decide +kernel) (by decide +kernel) (by decide +kernel) (by decide +kernel) ?_
            refine lv_dload hx hb dX12_valueAs_159 (lv_at hl 0 rfl) ?_
            refine lv_ldc2d (v := 4600427019358961664) hx hb hown (hts (.constantDouble RX12 227 (4600427019358961664)) (List.mem_of_getElem? (i := 9) rfl)) dX12_valueAs_161 ?_
            have hFc := va_free (wc := []) hD hS hA [] rfl
            refine va_calldD hd_17 (va_runS_D (As := [.double r_16, .double 4600427019358961664]) (rest := []) ⟨hx, hb, hml, hown, hts⟩ (c_X5_remainder l D T _ r_16 4600427019358961664) (va_cwS 2 hts gX12_valueAs_X5_remainder rfl rfl rfl hs_X5_remainder ⟨Nat.le_of_ble_eq_true rfl, Nat.le_of_ble_eq_true rfl⟩) (pW_S hP hE hD [] (by decide +kernel) rfl rfl) rfl rfl hl.1 rfl (lv_room (Nat.le_of_ble_eq_true rfl)) dX12_valueAs_164 ⟨Nat.le_of_ble_eq_true rfl, Nat.le_of_ble_eq_true rfl⟩) hS (fun q _ h => hFc q h) hFc (fun r_40 u_41 t H1 locs ht hvm hr_40 hB hz1 hk1 hS d_42 hd_42 => ?_)
            have hts := dr_words hts0 d_42
            have hE : ekK D T (s.setDrawn d_42) := ekK.same (u := s) rfl hE0
            have hown : (s.setDrawn d_42).vm.findClass RX12 = some m.cls := hown0
            have hV : evK ad sa av ta A (s.setDrawn d_42) (s.setDrawn d_42).heap := evK.same (u := s) rfl hV0
            obtain ⟨hP1, hD1⟩ := hB
            rw [ht] at hP1
            obtain ⟨hP, hD⟩ := va_repl [(h0, .inr (9, fs0)), (wo, .inr (8, [.ref la, .ref cl, .ref p0, .ref p1, .ref p4, .int n])), (la, .inr (5, [.int (l9 0), .int (l9 1), .int (l9 2), .int (l9 3), .int (l9 4), .int (l9 5), .int (l9 6)])), (cl, .inr (1, [.int n0, .ref c1, .ref c2, .ref c3, .ref c4, .ref c5, .ref c6, .ref c7])), (c1, .inl (T 0, 24, .inl f1)), (c2, .inl (T 0, 24, .inl f2)), (c3, .inl (T 0, 24, .inl f3)), (c4, .inl (T 0, 24, .inl f4)), (c5, .inl (T 0, 24, .inl f5)), (p0, .inl (T 1, 676, .inr (.inl f_9))), (p1, .inl (T 1, 676, .inr (.inl f_10))), (p4, .inl (T 0, 672, .inl f_11))] hP hD [] [] rfl (by decide +kernel) rfl rfl rfl hk1 hP1
            clear hP1 hD1 hFc
            generalize H1 = H at hP hS ⊢
            have hFc := va_free (wc := []) hD hS hA [] rfl
            refine va_calllD hd_42 (va_runS_D (As := [.double r_40]) (rest := []) ⟨hx, hb, hml, hown, hts⟩ (c_X5_doubleBits l D T _ r_40) (va_cwS 1 hts gX12_valueAs_X5_doubleBits rfl rfl rfl hs_X5_doubleBits ⟨Nat.le_of_ble_eq_true rfl, Nat.le_of_ble_eq_true rfl⟩) (pW_S hP hE hD [] (by decide +kernel) rfl rfl) rfl rfl hl.1 rfl (lv_room (Nat.le_of_ble_eq_true rfl)) dX12_valueAs_167 ⟨Nat.le_of_ble_eq_true rfl, Nat.le_of_ble_eq_true rfl⟩) hS (fun q _ h => hFc q h) hFc (fun r_43 u_44 t H1 locs ht hvm hr_43 hB hz1 hk1 hS d_45 hd_45 => ?_)
            have hts := dr_words hts0 d_45
            have hE : ekK D T (s.setDrawn d_45) := ekK.same (u := s) rfl hE0
            have hown : (s.setDrawn d_45).vm.findClass RX12 = some m.cls := hown0
            have hV : evK ad sa av ta A (s.setDrawn d_45) (s.setDrawn d_45).heap := evK.same (u := s) rfl hV0
            obtain ⟨hP1, hD1⟩ := hB
            rw [ht] at hP1
            obtain ⟨hP, hD⟩ := va_repl [(h0, .inr (9, fs0)), (wo, .inr (8, [.ref la, .ref cl, .ref p0, .ref p1, .ref p4, .int n])), (la, .inr (5, [.int (l9 0), .int (l9 1), .int (l9 2), .int (l9 3), .int (l9 4), .int (l9 5), .int (l9 6)])), (cl, .inr (1, [.int n0, .ref c1, .ref c2, .ref c3, .ref c4, .ref c5, .ref c6, .ref c7])), (c1, .inl (T 0, 24, .inl f1)), (c2, .inl (T 0, 24, .inl f2)), (c3, .inl (T 0, 24, .inl f3)), (c4, .inl (T 0, 24, .inl f4)), (c5, .inl (T 0, 24, .inl f5)), (p0, .inl (T 1, 676, .inr (.inl f_9))), (p1, .inl (T 1, 676, .inr (.inl f_10))), (p4, .inl (T 0, 672, .inl f_11))] hP hD [] [] rfl (by decide +kernel) rfl rfl rfl hk1 hP1
            clear hP1 hD1 hFc
            generalize H1 = H at hP hS ⊢
            refine W.endD hd_45 ?_
            exact W.lret hx hb hr (fun t ht hW => ⟨⟨_, (f_9, f_10, f_11), rfl, hst, by rw [ht]; exact hP.sub [0, 1, 2, 3, 4, 5, 6, 7, 8, 9, 10, 11] rfl, hD.sub [0, 1, 2, 3, 4, 5, 6, 7, 8, 9, 10, 11] (by decide +kernel) rfl⟩, hS.F ht⟩) hS.2.2 dX12_valueAs_170
          rw [fa_eq] at k_18 k_22 k_28 k_32 k_39
          try simp only [ti_0, ti_1, ti_2, ti_3, ti_4] at k_18 k_22 k_28 k_32 k_39
          refine lv_tableOut (tgt := 171) hx hb dX12_valueAs_88 (by omega) (by decide +kernel) ?_
          refine lv_dload hx hb dX12_valueAs_171 (lv_at hl 0 rfl) ?_
          refine lv_d2f_any hd_17 lw_bits hx hb dX12_valueAs_173 (fun r_46 d_47 _ hd_47 => ?_)
          have hts := dr_words hts0 d_47
          have hE : ekK D T (s.setDrawn d_47) := ekK.same (u := s) rfl hE0
          have hown : (s.setDrawn d_47).vm.findClass RX12 = some m.cls := hown0
          have hV : evK ad sa av ta A (s.setDrawn d_47) (s.setDrawn d_47).heap := evK.same (u := s) rfl hV0
          refine lv_f2d_any hd_47 lw_bits hx hb dX12_valueAs_174 (fun r_48 d_49 _ hd_49 => ?_)
          have hts := dr_words hts0 d_49
          have hE : ekK D T (s.setDrawn d_49) := ekK.same (u := s) rfl hE0
          have hown : (s.setDrawn d_49).vm.findClass RX12 = some m.cls := hown0
          have hV : evK ad sa av ta A (s.setDrawn d_49) (s.setDrawn d_49).heap := evK.same (u := s) rfl hV0
          refine lv_ldc2d (v := 4604930618986332160) hx hb hown (hts (.constantDouble RX12 229 (4604930618986332160)) (List.mem_of_getElem? (i := 10) rfl)) dX12_valueAs_175 ?_
          have hFc := va_free (wc := []) hD hS hA [] rfl
          refine va_calldD hd_49 (va_runS_D (As := [.double r_48, .double 4604930618986332160]) (rest := []) ⟨hx, hb, hml, hown, hts⟩ (c_X5_remainder l D T _ r_48 4604930618986332160) (va_cwS 2 hts gX12_valueAs_X5_remainder rfl rfl rfl hs_X5_remainder ⟨Nat.le_of_ble_eq_true rfl, Nat.le_of_ble_eq_true rfl⟩) (pW_S hP hE hD [] (by decide +kernel) rfl rfl) rfl rfl hl.1 rfl (lv_room (Nat.le_of_ble_eq_true rfl)) dX12_valueAs_178 ⟨Nat.le_of_ble_eq_true rfl, Nat.le_of_ble_eq_true rfl⟩) hS (fun q _ h => hFc q h) hFc (fun r_50 u_51 t H1 locs ht hvm hr_50 hB hz1 hk1 hS d_52 hd_52 => ?_)
          have hts := dr_words hts0 d_52
          have hE : ekK D T (s.setDrawn d_52) := ekK.same (u := s) rfl hE0
          have hown : (s.setDrawn d_52).vm.findClass RX12 = some m.cls := hown0
          have hV : evK ad sa av ta A (s.setDrawn d_52) (s.setDrawn d_52).heap := evK.same (u := s) rfl hV0
          obtain ⟨hP1, hD1⟩ := hB
          rw [ht] at hP1
          obtain ⟨hP, hD⟩ := va_repl [(h0, .inr (9, fs0)), (wo, .inr (8, [.ref la, .ref cl, .ref p0, .ref p1, .ref p4, .int n])), (la, .inr (5, [.int (l9 0), .int (l9 1), .int (l9 2), .int (l9 3), .int (l9 4), .int (l9 5), .int (l9 6)])), (cl, .inr (1, [.int n0, .ref c1, .ref c2, .ref c3, .ref c4, .ref c5, .ref c6, .ref c7])), (c1, .inl (T 0, 24, .inl f1)), (c2, .inl (T 0, 24, .inl f2)), (c3, .inl (T 0, 24, .inl f3)), (c4, .inl (T 0, 24, .inl f4)), (c5, .inl (T 0, 24, .inl f5)), (p0, .inl (T 1, 676, .inr (.inl f_9))), (p1, .inl (T 1, 676, .inr (.inl f_10))), (p4, .inl (T 0, 672, .inl f_11))] hP hD [] [] rfl (by decide +kernel) rfl rfl rfl hk1 hP1
          clear hP1 hD1 hFc
          generalize H1 = H at hP hS ⊢
          refine lv_d2f_any hd_52 lw_bits hx hb dX12_valueAs_181 (fun r_53 d_54 _ hd_54 => ?_)
          have hts := dr_words hts0 d_54
          have hE : ekK D T (s.setDrawn d_54) := ekK.same (u := s) rfl hE0
          have hown : (s.setDrawn d_54).vm.findClass RX12 = some m.cls := hown0
          have hV : evK ad sa av ta A (s.setDrawn d_54) (s.setDrawn d_54).heap := evK.same (u := s) rfl hV0
          have hFc := va_free (wc := []) hD hS hA [] rfl
          refine va_calliD hd_54 (va_runS_D (As := [.float r_53]) (rest := []) ⟨hx, hb, hml, hown, hts⟩ (c_X5_floatBits l D T _ r_53) (va_cwS 1 hts gX12_valueAs_X5_floatBits rfl rfl rfl hs_X5_floatBits ⟨Nat.le_of_ble_eq_true rfl, Nat.le_of_ble_eq_true rfl⟩) (pW_S hP hE hD [] (by decide +kernel) rfl rfl) rfl rfl hl.1 rfl (lv_room (Nat.le_of_ble_eq_true rfl)) dX12_valueAs_182 ⟨Nat.le_of_ble_eq_true rfl, Nat.le_of_ble_eq_true rfl⟩) hS (fun q _ h => hFc q h) hFc (fun r_55 u_56 t H1 locs ht hvm hr_55 hB hz1 hk1 hS d_57 hd_57 => ?_)
          have hts := dr_words hts0 d_57
          have hE : ekK D T (s.setDrawn d_57) := ekK.same (u := s) rfl hE0
          have hown : (s.setDrawn d_57).vm.findClass RX12 = some m.cls := hown0
          have hV : evK ad sa av ta A (s.setDrawn d_57) (s.setDrawn d_57).heap := evK.same (u := s) rfl hV0
          obtain ⟨hP1, hD1⟩ := hB
          rw [ht] at hP1
          obtain ⟨hP, hD⟩ := va_repl [(h0, .inr (9, fs0)), (wo, .inr (8, [.ref la, .ref cl, .ref p0, .ref p1, .ref p4, .int n])), (la, .inr (5, [.int (l9 0), .int (l9 1), .int (l9 2), .int (l9 3), .int (l9 4), .int (l9 5), .int (l9 6)])), (cl, .inr (1, [.int n0, .ref c1, .ref c2, .ref c3, .ref c4, .ref c5, .ref c6, .ref c7])), (c1, .inl (T 0, 24, .inl f1)), (c2, .inl (T 0, 24, .inl f2)), (c3, .inl (T 0, 24, .inl f3)), (c4, .inl (T 0, 24, .inl f4)), (c5, .inl (T 0, 24, .inl f5)), (p0, .inl (T 1, 676, .inr (.inl f_9))), (p1, .inl (T 1, 676, .inr (.inl f_10))), (p4, .inl (T 0, 672, .inl f_11))] hP hD [] [] rfl (by decide +kernel) rfl rfl rfl hk1 hP1
          clear hP1 hD1 hFc
          generalize H1 = H at hP hS ⊢
          refine lv_i2l hx hb dX12_valueAs_185 rfl ?_
          refine W.endD hd_57 ?_
          exact W.lret hx hb hr (fun t ht hW => ⟨⟨_, (f_9, f_10, f_11), rfl, hst, by rw [ht]; exact hP.sub [0, 1, 2, 3, 4, 5, 6, 7, 8, 9, 10, 11] rfl, hD.sub [0, 1, 2, 3, 4, 5, 6, 7, 8, 9, 10, 11] (by decide +kernel) rfl⟩, hS.F ht⟩) hS.2.2 dX12_valueAs_186
      · refine lv_if_ne (tgt := 33) hx hb dX12_valueAs_26 (by decide +kernel) (fun c9 => absurd c9 (by decide +kernel)) (fun _ => ?_)
        refine lv_ldc2 (v := (-4611686018427387906)) hx hb hown (hts (.constantLong RX12 183 (-4611686018427387906)) (List.mem_of_getElem? (i := 2) rfl)) dX12_valueAs_29 ?_
        refine W.endD hd0 ?_
        exact W.lret hx hb hr (fun t ht hW => ⟨⟨_, (g0, g1, g4), rfl, hst, by rw [ht]; exact hP.sub [0, 1, 2, 3, 4, 5, 6, 7, 8, 9, 10, 11] rfl, hD.sub [0, 1, 2, 3, 4, 5, 6, 7, 8, 9, 10, 11] (by decide +kernel) rfl⟩, hS.F ht⟩) hS.2.2 dX12_valueAs_32
    · refine lv_if_eq (tgt := 29) hx hb dX12_valueAs_16 (by decide +kernel) (fun _ => ?_) (fun c9 => absurd c9 (by decide +kernel))
      refine lv_ldc2 (v := (-4611686018427387906)) hx hb hown (hts (.constantLong RX12 183 (-4611686018427387906)) (List.mem_of_getElem? (i := 2) rfl)) dX12_valueAs_29 ?_
      refine W.endD hd0 ?_
      exact W.lret hx hb hr (fun t ht hW => ⟨⟨_, (g0, g1, g4), rfl, hst, by rw [ht]; exact hP.sub [0, 1, 2, 3, 4, 5, 6, 7, 8, 9, 10, 11] rfl, hD.sub [0, 1, 2, 3, 4, 5, 6, 7, 8, 9, 10, 11] (by decide +kernel) rfl⟩, hS.F ht⟩) hS.2.2 dX12_valueAs_32
  · refine lv_if_eq (tgt := 29) hx hb dX12_valueAs_8 (by decide +kernel) (fun _ => ?_) (fun c9 => absurd c9 (by decide +kernel))
    refine lv_ldc2 (v := (-4611686018427387906)) hx hb hown (hts (.constantLong RX12 183 (-4611686018427387906)) (List.mem_of_getElem? (i := 2) rfl)) dX12_valueAs_29 ?_
    refine W.endD hd0 ?_
    exact W.lret hx hb hr (fun t ht hW => ⟨⟨_, (g0, g1, g4), rfl, hst, by rw [ht]; exact hP.sub [0, 1, 2, 3, 4, 5, 6, 7, 8, 9, 10, 11] rfl, hD.sub [0, 1, 2, 3, 4, 5, 6, 7, 8, 9, 10, 11] (by decide +kernel) rfl⟩, hS.F ht⟩) hS.2.2 dX12_valueAs_32
