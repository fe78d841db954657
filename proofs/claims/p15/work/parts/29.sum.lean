theorem sum_step {f : Nat → Int32} {i i' n : Int32} (h : ∀ j : Nat, (j : Int) < i.toInt → 0 ≤ (f j).toInt ∧ (f j).toInt < n.toInt) (hi : i'.toInt = i.toInt + 1) (h0 : 0 ≤ i.toInt ∧ i.toInt < 12) (hv : 0 ≤ (f i.toNatClampNeg).toInt ∧ (f i.toNatClampNeg).toInt < n.toInt) : ∀ j : Nat, (j : Int) < i'.toInt → 0 ≤ (f j).toInt ∧ (f j).toInt < n.toInt := by
  intro j hj
  obtain ⟨q, hq, e⟩ := nI_of (x := i) (by rw [fa_lt, ti_0]; omega)
  subst e
  rw [nI_clamp hq] at hv
  rw [nI_toInt hq] at *
  by_cases hjq : j = q
  · subst hjq; exact hv
  · exact h j (by omega)
theorem sum_at {f : Nat → Int32} {i k n : Int32} (h : ∀ j : Nat, (j : Int) < k.toInt → 0 ≤ (f j).toInt ∧ (f j).toInt < n.toInt) (hi : 0 ≤ i.toInt ∧ i.toInt < k.toInt) : 0 ≤ (f i.toNatClampNeg).toInt ∧ (f i.toNatClampNeg).toInt < n.toInt := by
  obtain ⟨q, hq, e⟩ := nI_of (x := i) (by rw [fa_lt, ti_0]; omega)
  subst e
  rw [nI_clamp hq]
  rw [nI_toInt hq] at hi
  exact h q hi.2
theorem ti_5' : (5 : Int32).toNatClampNeg = 5 := by decide
theorem nm5 : (nmT 5).toInt = 2 := by decide
theorem dX12_sum_0 : decode cX12_sum 0 = .ok (.iload_n 1, 1) := by decide +kernel
theorem dX12_sum_1 : decode cX12_sum 1 = .ok (.invokestatic 300, 3) := by decide +kernel
theorem dX12_sum_10 : decode cX12_sum 10 = .ok (.aload_n 0, 1) := by decide +kernel
theorem dX12_sum_101 : decode cX12_sum 101 = .ok (.aload_n 0, 1) := by decide +kernel
theorem dX12_sum_102 : decode cX12_sum 102 = .ok (.getfield 32, 3) := by decide +kernel
theorem dX12_sum_105 : decode cX12_sum 105 = .ok (.getstatic 311, 3) := by decide +kernel
theorem dX12_sum_108 : decode cX12_sum 108 = .ok (.getfield 314, 3) := by decide +kernel
theorem dX12_sum_11 : decode cX12_sum 11 = .ok (.getfield 37, 3) := by decide +kernel
theorem dX12_sum_111 : decode cX12_sum 111 = .ok (.iconst 0, 1) := by decide +kernel
theorem dX12_sum_112 : decode cX12_sum 112 = .ok (.iload_n 3, 1) := by decide +kernel
theorem dX12_sum_113 : decode cX12_sum 113 = .ok (.aload_n 2, 1) := by decide +kernel
theorem dX12_sum_114 : decode cX12_sum 114 = .ok (.getfield 308, 3) := by decide +kernel
theorem dX12_sum_117 : decode cX12_sum 117 = .ok (.iload 4, 2) := by decide +kernel
theorem dX12_sum_119 : decode cX12_sum 119 = .ok (.iaload, 1) := by decide +kernel
theorem dX12_sum_120 : decode cX12_sum 120 = .ok (.invokevirtual 146, 3) := by decide +kernel
theorem dX12_sum_123 : decode cX12_sum 123 = .ok (.istore_n 3, 1) := by decide +kernel
theorem dX12_sum_124 : decode cX12_sum 124 = .ok (.iinc 4 1, 3) := by decide +kernel
theorem dX12_sum_127 : decode cX12_sum 127 = .ok (.goto (-35), 3) := by decide +kernel
theorem dX12_sum_130 : decode cX12_sum 130 = .ok (.iload_n 3, 1) := by decide +kernel
theorem dX12_sum_131 : decode cX12_sum 131 = .ok (.ireturn, 1) := by decide +kernel
theorem dX12_sum_14 : decode cX12_sum 14 = .ok (.iload_n 1, 1) := by decide +kernel
theorem dX12_sum_15 : decode cX12_sum 15 = .ok (.aaload, 1) := by decide +kernel
theorem dX12_sum_16 : decode cX12_sum 16 = .ok (.astore_n 2, 1) := by decide +kernel
theorem dX12_sum_17 : decode cX12_sum 17 = .ok (.aload_n 2, 1) := by decide +kernel
theorem dX12_sum_18 : decode cX12_sum 18 = .ok (.getfield 307, 3) := by decide +kernel
theorem dX12_sum_21 : decode cX12_sum 21 = .ok (.ifCond .ne 5, 3) := by decide +kernel
theorem dX12_sum_24 : decode cX12_sum 24 = .ok (.iconst (-1), 1) := by decide +kernel
theorem dX12_sum_25 : decode cX12_sum 25 = .ok (.ireturn, 1) := by decide +kernel
theorem dX12_sum_26 : decode cX12_sum 26 = .ok (.iconst 0, 1) := by decide +kernel
theorem dX12_sum_27 : decode cX12_sum 27 = .ok (.istore_n 3, 1) := by decide +kernel
theorem dX12_sum_28 : decode cX12_sum 28 = .ok (.iload_n 3, 1) := by decide +kernel
theorem dX12_sum_29 : decode cX12_sum 29 = .ok (.aload_n 2, 1) := by decide +kernel
theorem dX12_sum_30 : decode cX12_sum 30 = .ok (.getfield 307, 3) := by decide +kernel
theorem dX12_sum_33 : decode cX12_sum 33 = .ok (.if_icmp .ge 27, 3) := by decide +kernel
theorem dX12_sum_36 : decode cX12_sum 36 = .ok (.aload_n 0, 1) := by decide +kernel
theorem dX12_sum_37 : decode cX12_sum 37 = .ok (.getfield 32, 3) := by decide +kernel
theorem dX12_sum_4 : decode cX12_sum 4 = .ok (.ifCond .ne 6, 3) := by decide +kernel
theorem dX12_sum_40 : decode cX12_sum 40 = .ok (.aload_n 2, 1) := by decide +kernel
theorem dX12_sum_41 : decode cX12_sum 41 = .ok (.getfield 308, 3) := by decide +kernel
theorem dX12_sum_44 : decode cX12_sum 44 = .ok (.iload_n 3, 1) := by decide +kernel
theorem dX12_sum_45 : decode cX12_sum 45 = .ok (.iaload, 1) := by decide +kernel
theorem dX12_sum_46 : decode cX12_sum 46 = .ok (.invokevirtual 150, 3) := by decide +kernel
theorem dX12_sum_49 : decode cX12_sum 49 = .ok (.ifCond .ne 5, 3) := by decide +kernel
theorem dX12_sum_52 : decode cX12_sum 52 = .ok (.iconst (-1), 1) := by decide +kernel
theorem dX12_sum_53 : decode cX12_sum 53 = .ok (.ireturn, 1) := by decide +kernel
theorem dX12_sum_54 : decode cX12_sum 54 = .ok (.iinc 3 1, 3) := by decide +kernel
theorem dX12_sum_57 : decode cX12_sum 57 = .ok (.goto (-29), 3) := by decide +kernel
theorem dX12_sum_60 : decode cX12_sum 60 = .ok (.aload_n 0, 1) := by decide +kernel
theorem dX12_sum_61 : decode cX12_sum 61 = .ok (.getfield 32, 3) := by decide +kernel
theorem dX12_sum_64 : decode cX12_sum 64 = .ok (.getfield 138, 3) := by decide +kernel
theorem dX12_sum_67 : decode cX12_sum 67 = .ok (.aload_n 2, 1) := by decide +kernel
theorem dX12_sum_68 : decode cX12_sum 68 = .ok (.getfield 307, 3) := by decide +kernel
theorem dX12_sum_7 : decode cX12_sum 7 = .ok (.bipush (-2), 2) := by decide +kernel
theorem dX12_sum_71 : decode cX12_sum 71 = .ok (.iadd, 1) := by decide +kernel
theorem dX12_sum_72 : decode cX12_sum 72 = .ok (.iconst 1, 1) := by decide +kernel
theorem dX12_sum_73 : decode cX12_sum 73 = .ok (.isub, 1) := by decide +kernel
theorem dX12_sum_74 : decode cX12_sum 74 = .ok (.bipush 24, 2) := by decide +kernel
theorem dX12_sum_76 : decode cX12_sum 76 = .ok (.if_icmp .le 6, 3) := by decide +kernel
theorem dX12_sum_79 : decode cX12_sum 79 = .ok (.bipush (-4), 2) := by decide +kernel
theorem dX12_sum_81 : decode cX12_sum 81 = .ok (.ireturn, 1) := by decide +kernel
theorem dX12_sum_82 : decode cX12_sum 82 = .ok (.aload_n 2, 1) := by decide +kernel
theorem dX12_sum_83 : decode cX12_sum 83 = .ok (.getfield 308, 3) := by decide +kernel
theorem dX12_sum_86 : decode cX12_sum 86 = .ok (.iconst 0, 1) := by decide +kernel
theorem dX12_sum_87 : decode cX12_sum 87 = .ok (.iaload, 1) := by decide +kernel
theorem dX12_sum_88 : decode cX12_sum 88 = .ok (.istore_n 3, 1) := by decide +kernel
theorem dX12_sum_89 : decode cX12_sum 89 = .ok (.iconst 1, 1) := by decide +kernel
theorem dX12_sum_9 : decode cX12_sum 9 = .ok (.ireturn, 1) := by decide +kernel
theorem dX12_sum_90 : decode cX12_sum 90 = .ok (.istore 4, 2) := by decide +kernel
theorem dX12_sum_92 : decode cX12_sum 92 = .ok (.iload 4, 2) := by decide +kernel
theorem dX12_sum_94 : decode cX12_sum 94 = .ok (.aload_n 2, 1) := by decide +kernel
theorem dX12_sum_95 : decode cX12_sum 95 = .ok (.getfield 307, 3) := by decide +kernel
theorem dX12_sum_98 : decode cX12_sum 98 = .ok (.if_icmp .ge 32, 3) := by decide +kernel
set_option maxRecDepth 20000 in
theorem ggX12_sum_X12_isBag : GoodIn wsX12_sum wsX12_isBag := goodIn_r _ [11, 12, 13, 10, 14] rfl (by decide +kernel)
set_option maxRecDepth 20000 in
theorem ggX12_sum_X2_append : GoodIn wsX12_sum wsX2_append := goodIn_r _ [24, 20, 25, 26, 27, 28, 29, 18, 30, 31, 32, 33, 34, 35, 36, 37, 38, 39, 40, 41, 42, 43, 44, 45, 46, 47, 48, 49, 50, 51, 52, 66, 67, 68, 69, 70, 71, 72, 73] rfl (by decide +kernel)
set_option maxRecDepth 20000 in
theorem ggX12_sum_X2_has : GoodIn wsX12_sum wsX2_has := goodIn_r _ [19, 20, 13, 10, 14, 66, 67, 68, 69, 70, 71, 72, 73] rfl (by decide +kernel)
set_option maxRecDepth 20000 in
theorem gX12_sum_X12_isBag : GoodIn wsX12_sum (va_wsS RX12 300 yX12_isBag wsX12_isBag) := goodIn_app (goodIn_of _ (by decide +kernel)) ggX12_sum_X12_isBag
set_option maxRecDepth 20000 in
theorem gX12_sum_X2_append : GoodIn wsX12_sum (wsV RX12 146 RX2 yX2_append wsX2_append) := goodIn_app (goodIn_r _ [21, 22, 23, 18] rfl (by decide +kernel)) ggX12_sum_X2_append
set_option maxRecDepth 20000 in
theorem gX12_sum_X2_has : GoodIn wsX12_sum (wsV RX12 150 RX2 yX2_has wsX2_has) := goodIn_app (goodIn_r _ [15, 16, 17, 18] rfl (by decide +kernel)) ggX12_sum_X2_has
set_option maxRecDepth 20000 in
theorem in_X12_sum_X1 : ∀ w ∈ wsX10, w ∈ wsX12_sum := sub_r [64, 65] rfl
set_option maxRecDepth 20000 in
theorem in_X12_sum_X12 : ∀ w ∈ wsX120, w ∈ wsX12_sum := sub_r [53, 54, 55, 56, 57, 58, 59, 60, 61, 62, 63] rfl
set_option maxRecDepth 20000 in
theorem in_X12_sum_X2 : ∀ w ∈ wsX20, w ∈ wsX12_sum := sub_r [66, 67, 68, 69, 70, 71, 72, 73] rfl
set_option maxHeartbeats 4000000 in
set_option maxRecDepth 100000 in
theorem c_X12_sum (l : Launch) (D : va_G) (T : Nat → ClassId) (ad sa av : Nat → Nat) (ta : Nat) (sz : Nat) (h0 : Nat) (h1 : Nat) (h2 : Nat) (fs0 : List Value) (n0 : Int32) (c1 : Nat) (c2 : Nat) (c3 : Nat) (c4 : Nat) (c5 : Nat) (c6 : Nat) (c7 : Nat) (f1 : Nat → Int32) (f2 : Nat → Int32) (f3 : Nat → Int32) (f4 : Nat → Int32) (f5 : Nat → Int32) (f6 : Nat → Int32) (f7 : Nat → Int32) (t0 : Nat) (t1 : Nat) (t2 : Nat) (a0 : Nat) (a1 : Nat) (a2 : Nat) (bn : Nat → Int32) (bf : Nat → Nat → Int32) (x1 : Int32) (e0_5 : fs0[5]? = some (.ref h1)) (e0_4 : fs0[4]? = some (.ref h2)) (hn0 : 0 ≤ n0.toInt ∧ n0.toInt ≤ 24) (hok : okC f1 f3 f4 f5) (hb0 : 0 ≤ (bn 0).toInt ∧ (bn 0).toInt ≤ 12) (hb1 : 0 ≤ (bn 1).toInt ∧ (bn 1).toInt ≤ 12) (hb2 : 0 ≤ (bn 2).toInt ∧ (bn 2).toInt ≤ 12) (hme : ∀ j : Nat, (j : Int) < n0.toInt → mesP f1 f2 f3 f4 f5 f6 f7 j) : Met l yX12_sum wsX12_sum ({ frames := 4, cells := 0, slots := 0, locals := 115 }) (pWk [.ref h0, .int x1] D T [(h0, .inr (9, fs0)), (h1, .inl (T 5, 3, .inr (.inr (.inr (.inr (va_up (va_up (va_up (fun _ => none) 0 (some t0)) 1 (some t1)) 2 (some t2))))))), (h2, .inr (1, [.int n0, .ref c1, .ref c2, .ref c3, .ref c4, .ref c5, .ref c6, .ref c7])), (c1, .inl (T 0, 24, .inl f1)), (c2, .inl (T 0, 24, .inl f2)), (c3, .inl (T 0, 24, .inl f3)), (c4, .inl (T 0, 24, .inl f4)), (c5, .inl (T 0, 24, .inl f5)), (c6, .inl (T 0, 24, .inl f6)), (c7, .inl (T 0, 24, .inl f7)), (t0, .inr (0, [.int (bn 0), .ref a0])), (t1, .inr (0, [.int (bn 1), .ref a1])), (t2, .inr (0, [.int (bn 2), .ref a2])), (a0, .inl (T 0, 12, .inl (bf 0))), (a1, .inl (T 0, 12, .inl (bf 1))), (a2, .inl (T 0, 12, .inl (bf 2)))] sz ad sa av ta) (va_Qi (fun (r : Int32) (u : Nat → Nat → Int32) => ((0 ≤ (u 0 0).toInt ∧ (u 0 0).toInt ≤ 24) ∧ okC (u 1) (u 3) (u 4) (u 5)) ∧ sumC n0 r (u 0 0) (bn x1.toNatClampNeg) (bf x1.toNatClampNeg) f1 f2 f3 f4 (u 1) (u 2) (u 3) (u 4) (¬ (0 ≤ x1.toInt ∧ x1.toInt ≤ 2)) ∧ (∀ j : Nat, (j : Int) < (u 0 0).toInt → mesP (u 1) (u 2) (u 3) (u 4) (u 5) (u 6) (u 7) j)) (bW D (va_A [(h0, .inr (9, fs0)), (h1, .inl (T 5, 3, .inr (.inr (.inr (.inr (va_up (va_up (va_up (fun _ => none) 0 (some t0)) 1 (some t1)) 2 (some t2))))))), (h2, .inr (1, [.int n0, .ref c1, .ref c2, .ref c3, .ref c4, .ref c5, .ref c6, .ref c7])), (c1, .inl (T 0, 24, .inl f1)), (c2, .inl (T 0, 24, .inl f2)), (c3, .inl (T 0, 24, .inl f3)), (c4, .inl (T 0, 24, .inl f4)), (c5, .inl (T 0, 24, .inl f5)), (c6, .inl (T 0, 24, .inl f6)), (c7, .inl (T 0, 24, .inl f7)), (t0, .inr (0, [.int (bn 0), .ref a0])), (t1, .inr (0, [.int (bn 1), .ref a1])), (t2, .inr (0, [.int (bn 2), .ref a2])), (a0, .inl (T 0, 12, .inl (bf 0))), (a1, .inl (T 0, 12, .inl (bf 1))), (a2, .inl (T 0, 12, .inl (bf 2)))] sz) (fun (u : Nat → Nat → Int32) => [(h0, .inr (9, fs0)), (h1, .inl (T 5, 3, .inr (.inr (.inr (.inr (va_up (va_up (va_up (fun _ => none) 0 (some t0)) 1 (some t1)) 2 (some t2))))))), (h2, .inr (1, [.int (u 0 0), .ref c1, .ref c2, .ref c3, .ref c4, .ref c5, .ref c6, .ref c7])), (c1, .inl (T 0, 24, .inl (u 1))), (c2, .inl (T 0, 24, .inl (u 2))), (c3, .inl (T 0, 24, .inl (u 3))), (c4, .inl (T 0, 24, .inl (u 4))), (c5, .inl (T 0, 24, .inl (u 5))), (c6, .inl (T 0, 24, .inl (u 6))), (c7, .inl (T 0, 24, .inl (u 7))), (t0, .inr (0, [.int (bn 0), .ref a0])), (t1, .inr (0, [.int (bn 1), .ref a1])), (t2, .inr (0, [.int (bn 2), .ref a2])), (a0, .inl (T 0, 12, .inl (bf 0))), (a1, .inl (T 0, 12, .inl (bf 1))), (a2, .inl (T 0, 12, .inl (bf 2)))])) (va_A [(h0, .inr (9, fs0)), (h1, .inl (T 5, 3, .inr (.inr (.inr (.inr (va_up (va_up (va_up (fun _ => none) 0 (some t0)) 1 (some t1)) 2 (some t2))))))), (h2, .inr (1, [.int n0, .ref c1, .ref c2, .ref c3, .ref c4, .ref c5, .ref c6, .ref c7])), (c1, .inl (T 0, 24, .inl f1)), (c2, .inl (T 0, 24, .inl f2)), (c3, .inl (T 0, 24, .inl f3)), (c4, .inl (T 0, 24, .inl f4)), (c5, .inl (T 0, 24, .inl f5)), (c6, .inl (T 0, 24, .inl f6)), (c7, .inl (T 0, 24, .inl f7)), (t0, .inr (0, [.int (bn 0), .ref a0])), (t1, .inr (0, [.int (bn 1), .ref a1])), (t2, .inr (0, [.int (bn 2), .ref a2])), (a0, .inl (T 0, 12, .inl (bf 0))), (a1, .inl (T 0, 12, .inl (bf 1))), (a2, .inl (T 0, 12, .inl (bf 2)))] sz)) 0 0 (va_A [(h0, .inr (9, fs0)), (h1, .inl (T 5, 3, .inr (.inr (.inr (.inr (va_up (va_up (va_up (fun _ => none) 0 (some t0)) 1 (some t1)) 2 (some t2))))))), (h2, .inr (1, [.int n0, .ref c1, .ref c2, .ref c3, .ref c4, .ref c5, .ref c6, .ref c7])), (c1, .inl (T 0, 24, .inl f1)), (c2, .inl (T 0, 24, .inl f2)), (c3, .inl (T 0, 24, .inl f3)), (c4, .inl (T 0, 24, .inl f4)), (c5, .inl (T 0, 24, .inl f5)), (c6, .inl (T 0, 24, .inl f6)), (c7, .inl (T 0, 24, .inl f7)), (t0, .inr (0, [.int (bn 0), .ref a0])), (t1, .inr (0, [.int (bn 1), .ref a1])), (t2, .inr (0, [.int (bn 2), .ref a2])), (a0, .inl (T 0, 12, .inl (bf 0))), (a1, .inl (T 0, 12, .inl (bf 1))), (a2, .inl (T 0, 12, .inl (bf 2)))] sz) := by
  refine Met.ofW (cc := cX12_sum) (maxL := 5) (ret := (some .int)) (by decide +kernel) rfl ?_
  intro p e s m args below meth c s₁ B hml hv
  obtain ⟨rfl, hsz, hP, hE, hD0, hV⟩ := hv
  have hx := B.exec
  have hb := B.bytes
  have hr := B.returns
  have hts := atoms_spec (ws := wsX12_sum) B.pre
  have hown : s.vm.findClass RX12 = some m.cls := findClass_of_methodNamed B.named
  have hlocks := B.notSynchronized
  subst hsz
  have hD := hD0.self (sz := s.heap.size)
  generalize hAe : va_A [(h0, .inr (9, fs0)), (h1, .inl (T 5, 3, .inr (.inr (.inr (.inr (va_up (va_up (va_up (fun _ => none) 0 (some t0)) 1 (some t1)) 2 (some t2))))))), (h2, .inr (1, [.int n0, .ref c1, .ref c2, .ref c3, .ref c4, .ref c5, .ref c6, .ref c7])), (c1, .inl (T 0, 24, .inl f1)), (c2, .inl (T 0, 24, .inl f2)), (c3, .inl (T 0, 24, .inl f3)), (c4, .inl (T 0, 24, .inl f4)), (c5, .inl (T 0, 24, .inl f5)), (c6, .inl (T 0, 24, .inl f6)), (c7, .inl (T 0, 24, .inl f7)), (t0, .inr (0, [.int (bn 0), .ref a0])), (t1, .inr (0, [.int (bn 1), .ref a1])), (t2, .inr (0, [.int (bn 2), .ref a2])), (a0, .inl (T 0, 12, .inl (bf 0))), (a1, .inl (T 0, 12, .inl (bf 1))), (a2, .inl (T 0, 12, .inl (bf 2)))] s.heap.size = A at hD hV ⊢
  have hA : ∀ q : Nat, s.heap.size ≤ q → A q := fun q h => by rw [← hAe]; exact Or.inr h
  have hS : va_S A s.heap s.heap [] := va_S.rf
  have hP : va_P D vwCl [(h0, .inr (9, fs0)), (h1, .inl (T 5, 3, .inr (.inr (.inr (.inr (va_up (va_up (va_up (fun _ => none) 0 (some t0)) 1 (some t1)) 2 (some t2))))))), (h2, .inr (1, [.int n0, .ref c1, .ref c2, .ref c3, .ref c4, .ref c5, .ref c6, .ref c7])), (c1, .inl (T 0, 24, .inl f1)), (c2, .inl (T 0, 24, .inl f2)), (c3, .inl (T 0, 24, .inl f3)), (c4, .inl (T 0, 24, .inl f4)), (c5, .inl (T 0, 24, .inl f5)), (c6, .inl (T 0, 24, .inl f6)), (c7, .inl (T 0, 24, .inl f7)), (t0, .inr (0, [.int (bn 0), .ref a0])), (t1, .inr (0, [.int (bn 1), .ref a1])), (t2, .inr (0, [.int (bn 2), .ref a2])), (a0, .inl (T 0, 12, .inl (bf 0))), (a1, .inl (T 0, 12, .inl (bf 1))), (a2, .inl (T 0, 12, .inl (bf 2)))] s.heap := hP
  have hl := lv_entry ([.ref h0, .int x1]) (n := 5) (Nat.le_of_ble_eq_true rfl)
  rw [lg_entry_eq]
  generalize (lg_sl ([.ref h0, .int x1]) ++ List.replicate (5 - (lg_sl ([.ref h0, .int x1])).length) Slot.unset).toArray = ls at hl ⊢
  have hl : lv_has ls 5 [(0, .ref h0), (1, .int x1)] := hl
  clear hD0
  refine lv_iload_n hx hb dX12_sum_0 rfl (lv_at hl 1 rfl) ?_
  refine vp_callSi (W.runS (As := [.int x1]) (rest := []) ⟨hx, hb, hml, hown, hts⟩ (c_X12_isBag l D T x1) (va_cwS 1 hts gX12_sum_X12_isBag rfl rfl rfl hs_X12_isBag ⟨Nat.le_of_ble_eq_true rfl, Nat.le_of_ble_eq_true rfl⟩) (pR_S hP hE [] rfl) rfl rfl hl.1 rfl (lv_room (Nat.le_of_ble_eq_true rfl)) dX12_sum_1 ⟨Nat.le_of_ble_eq_true rfl, Nat.le_of_ble_eq_true rfl⟩) (fun r_1 hr_1 => ?_)
  rcases bool_post hr_1 with ⟨c_2, rfl⟩ | ⟨c_2, rfl⟩
  · refine lv_if_ne (tgt := 10) hx hb dX12_sum_4 (by decide +kernel) (fun _ => ?_) (fun c9 => absurd c9 (by decide +kernel))
    rcases in3 (x := x1) (by omega) with rfl | rfl | rfl
    · refine lv_aload_n hx hb dX12_sum_10 rfl (lv_at hl 0 rfl) ?_
      refine va_get (D := D) (ci := 9) (v := .ref h1) (C := RX12) (T := TX12) (N := 11) hx hb hts in_X12_sum_X12 hown hE.1 hP 0 rfl rfl 5 (by decide +kernel) (hts (.fieldLink RX12 37 "ClauseBook" "bags" "[LClauseBook$Bag;") (List.mem_of_getElem? (i := 1) rfl)) (fun _ h9 => h9) e0_5 dX12_sum_11 ?_
      refine lv_iload_n hx hb dX12_sum_14 rfl (lv_at hl 1 rfl) ?_
      refine va_aldq hx hb hE.1 hP 1 5 rfl rfl (by unfold vp_in; decide) dX12_sum_15 ?_
      refine W.eq (g2 := F0 m 16 ls [.ref t0]) rfl ?_
      refine lv_astore_n (lv' := [(2, .ref t0), (0, .ref h0), (1, .int 0)]) hx hb dX12_sum_16 rfl hl (by decide +kernel) rfl (fun ls hl => ?_)
      refine lv_aload_n hx hb dX12_sum_17 rfl (lv_at hl 0 rfl) ?_
      refine va_get (D := D) (ci := 0) (v := .int (bn 0)) (C := RX1) (T := TX1) (N := 2) hx hb hts in_X12_sum_X1 hown hE.1 hP 10 rfl rfl 0 (by decide +kernel) (hts (.fieldLink RX12 307 "ClauseBook$Bag" "size" "I") (List.mem_of_getElem? (i := 2) rfl)) (fun _ h9 => h9) rfl dX12_sum_18 ?_
      refine lv_if_ne (tgt := 26) hx hb dX12_sum_21 (by decide +kernel) (fun c_3 => ?_) (fun c_3 => ?_)
      · rw [fa_eq] at c_3
        try rw [ti_0] at c_3
        refine lv_iconst (v := 0) hx hb dX12_sum_26 (by decide +kernel) ?_
        refine lv_istore_n (lv' := [(3, .int 0), (2, .ref t0), (0, .ref h0), (1, .int 0)]) hx hb dX12_sum_27 rfl hl (by decide +kernel) rfl (fun ls hl => ?_)
        refine loopR (σ := (Int32)) (fun x9 ls => lv_has ls 5 [(3, .int x9), (2, .ref t0), (0, .ref h0), (1, .int 0)] ∧ (0 ≤ x9.toInt ∧ ∀ j : Nat, (j : Int) < x9.toInt → 0 ≤ (bf 0 j).toInt ∧ (bf 0 j).toInt < n0.toInt)) (fun x9 => (12 - x9.toInt).toNat) (fun x9 ls hI ih => ?_) 0 ls ⟨lv_sub hl [0, 1, 2, 3] rfl, ⟨(by (try dsimp only); decide), (fun j hj => absurd hj (by (try dsimp only); rw [ti_0]; omega))⟩⟩
        obtain ⟨ii, rfl⟩ : ∃ z, z = x9 := ⟨_, rfl⟩
        obtain ⟨hl, hinv⟩ := hI
        have hl : lv_has ls 5 [(3, .int ii), (2, .ref t0), (0, .ref h0), (1, .int 0)] := hl
        have hinv : 0 ≤ ii.toInt ∧ ∀ j : Nat, (j : Int) < ii.toInt → 0 ≤ (bf 0 j).toInt ∧ (bf 0 j).toInt < n0.toInt := hinv
        obtain ⟨hii, hall⟩ := hinv
        refine lv_iload_n hx hb dX12_sum_28 rfl (lv_at hl 0 rfl) ?_
        refine lv_aload_n hx hb dX12_sum_29 rfl (lv_at hl 1 rfl) ?_
        refine va_get (D := D) (ci := 0) (v := .int (bn 0)) (C := RX1) (T := TX1) (N := 2) hx hb hts in_X12_sum_X1 hown hE.1 hP 10 rfl rfl 0 (by decide +kernel) (hts (.fieldLink RX12 307 "ClauseBook$Bag" "size" "I") (List.mem_of_getElem? (i := 2) rfl)) (fun _ h9 => h9) rfl dX12_sum_30 ?_
        refine lv_icmp_ge (tgt := 60) hx hb dX12_sum_33 (by decide +kernel) (fun c_4 => ?_) (fun c_4 => ?_)
        · rw [fa_le] at c_4
          have hall2 : ∀ j : Nat, (j : Int) < (bn 0).toInt → 0 ≤ (bf 0 j).toInt ∧ (bf 0 j).toInt < n0.toInt := fun j hj => hall j (by omega)
          refine lv_aload_n hx hb dX12_sum_60 rfl (lv_at hl 2 rfl) ?_
          refine va_get (D := D) (ci := 9) (v := .ref h2) (C := RX12) (T := TX12) (N := 11) hx hb hts in_X12_sum_X12 hown hE.1 hP 0 rfl rfl 4 (by decide +kernel) (hts (.fieldLink RX12 32 "ClauseBook" "clauses" "LClauseBook$Clauses;") (List.mem_of_getElem? (i := 3) rfl)) (fun _ h9 => h9) e0_4 dX12_sum_61 ?_
          refine va_get (D := D) (ci := 1) (v := .int n0) (C := RX2) (T := TX2) (N := 8) hx hb hts in_X12_sum_X2 hown hE.1 hP 2 rfl rfl 0 (by decide +kernel) (hts (.fieldLink RX12 138 "ClauseBook$Clauses" "size" "I") (List.mem_of_getElem? (i := 5) rfl)) (fun _ h9 => h9) rfl dX12_sum_64 ?_
          refine lv_aload_n hx hb dX12_sum_67 rfl (lv_at hl 1 rfl) ?_
          refine va_get (D := D) (ci := 0) (v := .int (bn 0)) (C := RX1) (T := TX1) (N := 2) hx hb hts in_X12_sum_X1 hown hE.1 hP 10 rfl rfl 0 (by decide +kernel) (hts (.fieldLink RX12 307 "ClauseBook$Bag" "size" "I") (List.mem_of_getElem? (i := 2) rfl)) (fun _ h9 => h9) rfl dX12_sum_68 ?_
          refine lv_iadd hx hb dX12_sum_71 ?_
          refine lv_iconst (v := 1) hx hb dX12_sum_72 (by decide +kernel) ?_
          refine lv_isub hx hb dX12_sum_73 ?_
          refine lv_bipush (v := 24) hx hb dX12_sum_74 (by decide +kernel) ?_
          refine lv_icmp_le (tgt := 82) hx hb dX12_sum_76 (by decide +kernel) (fun c_5 => ?_) (fun c_5 => ?_)
          · rw [fa_le] at c_5
            try rw [ti_24] at c_5
            have hs9 : (n0 + (bn 0)).toInt = n0.toInt + (bn 0).toInt := fb_addI (by omega) (by omega)
            have hs8 := dec1 (i := n0 + (bn 0)) (by omega)
            refine lv_aload_n hx hb dX12_sum_82 rfl (lv_at hl 1 rfl) ?_
            refine va_get (D := D) (ci := 0) (v := .ref a0) (C := RX1) (T := TX1) (N := 2) hx hb hts in_X12_sum_X1 hown hE.1 hP 10 rfl rfl 1 (by decide +kernel) (hts (.fieldLink RX12 308 "ClauseBook$Bag" "numbers" "[I") (List.mem_of_getElem? (i := 4) rfl)) (fun _ h9 => h9) rfl dX12_sum_83 ?_
            refine lv_iconst (v := 0) hx hb dX12_sum_86 (by decide +kernel) ?_
            refine va_iald hx hb hE.1 hP 13 0 rfl rfl (by unfold vp_in; decide) dX12_sum_87 ?_
            refine lv_topi (fun z_6 ez_6 => ?_)
            have hz9 : 0 ≤ z_6.toInt ∧ z_6.toInt < n0.toInt := by rw [ez_6]; exact hall 0 (by omega)
            refine lv_istore_n (lv' := [(3, .int z_6), (2, .ref t0), (0, .ref h0), (1, .int 0)]) hx hb dX12_sum_88 rfl hl (by decide +kernel) rfl (fun ls hl => ?_)
            refine lv_iconst (v := 1) hx hb dX12_sum_89 (by decide +kernel) ?_
            refine lv_istore (lv' := [(4, .int 1), (3, .int z_6), (2, .ref t0), (0, .ref h0), (1, .int 0)]) hx hb dX12_sum_90 hl (by decide +kernel) rfl (fun ls hl => ?_)
            refine loopW (σ := (Int32) × (Int32) × (Int32) × (Nat → Int32) × (Nat → Int32) × (Nat → Int32) × (Nat → Int32) × (Nat → Int32) × (Nat → Int32) × (Nat → Int32)) (fun x9 ls H locs => lv_has ls 5 [(4, .int x9.1), (3, .int x9.2.1), (2, .ref t0), (0, .ref h0), (1, .int 0)] ∧ va_P D vwCl [(h0, .inr (9, fs0)), (h1, .inl (T 5, 3, .inr (.inr (.inr (.inr (va_up (va_up (va_up (fun _ => none) 0 (some t0)) 1 (some t1)) 2 (some t2))))))), (h2, .inr (1, [.int x9.2.2.1, .ref c1, .ref c2, .ref c3, .ref c4, .ref c5, .ref c6, .ref c7])), (c1, .inl (T 0, 24, .inl x9.2.2.2.1)), (c2, .inl (T 0, 24, .inl x9.2.2.2.2.1)), (c3, .inl (T 0, 24, .inl x9.2.2.2.2.2.1)), (c4, .inl (T 0, 24, .inl x9.2.2.2.2.2.2.1)), (c5, .inl (T 0, 24, .inl x9.2.2.2.2.2.2.2.1)), (c6, .inl (T 0, 24, .inl x9.2.2.2.2.2.2.2.2.1)), (c7, .inl (T 0, 24, .inl x9.2.2.2.2.2.2.2.2.2)), (t0, .inr (0, [.int (bn 0), .ref a0])), (t1, .inr (0, [.int (bn 1), .ref a1])), (t2, .inr (0, [.int (bn 2), .ref a2])), (a0, .inl (T 0, 12, .inl (bf 0))), (a1, .inl (T 0, 12, .inl (bf 1))), (a2, .inl (T 0, 12, .inl (bf 2)))] H ∧ va_D A [(h0, .inr (9, fs0)), (h1, .inl (T 5, 3, .inr (.inr (.inr (.inr (va_up (va_up (va_up (fun _ => none) 0 (some t0)) 1 (some t1)) 2 (some t2))))))), (h2, .inr (1, [.int x9.2.2.1, .ref c1, .ref c2, .ref c3, .ref c4, .ref c5, .ref c6, .ref c7])), (c1, .inl (T 0, 24, .inl x9.2.2.2.1)), (c2, .inl (T 0, 24, .inl x9.2.2.2.2.1)), (c3, .inl (T 0, 24, .inl x9.2.2.2.2.2.1)), (c4, .inl (T 0, 24, .inl x9.2.2.2.2.2.2.1)), (c5, .inl (T 0, 24, .inl x9.2.2.2.2.2.2.2.1)), (c6, .inl (T 0, 24, .inl x9.2.2.2.2.2.2.2.2.1)), (c7, .inl (T 0, 24, .inl x9.2.2.2.2.2.2.2.2.2)), (t0, .inr (0, [.int (bn 0), .ref a0])), (t1, .inr (0, [.int (bn 1), .ref a1])), (t2, .inr (0, [.int (bn 2), .ref a2])), (a0, .inl (T 0, 12, .inl (bf 0))), (a1, .inl (T 0, 12, .inl (bf 1))), (a2, .inl (T 0, 12, .inl (bf 2)))] ∧ va_S A s.heap H locs ∧ ((1 ≤ x9.1.toInt ∧ x9.1.toInt ≤ (bn 0).toInt ∧ x9.2.2.1.toInt = n0.toInt + x9.1.toInt - 1 ∧ 0 ≤ x9.2.1.toInt ∧ x9.2.1.toInt < x9.2.2.1.toInt) ∧ okC x9.2.2.2.1 x9.2.2.2.2.2.1 x9.2.2.2.2.2.2.1 x9.2.2.2.2.2.2.2.1 ∧ (∀ A : clsA, rlC n0 f1 f2 f3 f4 A → x9.2.1 = (sumF (bf 0) A (x9.1.toNatClampNeg - 1)).1 ∧ rlC x9.2.2.1 x9.2.2.2.1 x9.2.2.2.2.1 x9.2.2.2.2.2.1 x9.2.2.2.2.2.2.1 (sumF (bf 0) A (x9.1.toNatClampNeg - 1)).2) ∧ ∀ j : Nat, (j : Int) < x9.2.2.1.toInt → mesP x9.2.2.2.1 x9.2.2.2.2.1 x9.2.2.2.2.2.1 x9.2.2.2.2.2.2.1 x9.2.2.2.2.2.2.2.1 x9.2.2.2.2.2.2.2.2.1 x9.2.2.2.2.2.2.2.2.2 j)) (fun x9 => (12 - x9.1.toInt).toNat) (fun x9 ls H locs hI ih => ?_) (1, z_6, n0, f1, f2, f3, f4, f5, f6, f7) ls ⟨lv_sub hl [0, 1, 2, 3, 4] rfl, hP.sub [0, 1, 2, 3, 4, 5, 6, 7, 8, 9, 10, 11, 12, 13, 14, 15] rfl, hD.sub [0, 1, 2, 3, 4, 5, 6, 7, 8, 9, 10, 11, 12, 13, 14, 15] (by decide +kernel) rfl, hS, ⟨(by (try dsimp only); rw [ti_1]; omega), hok, (by (try dsimp only); intro A hA; rw [tn1']; exact ⟨(show z_6 = (bf 0) 0 from ez_6), hA⟩), hme⟩⟩
            obtain ⟨ii, al, nn, v1, v2, v3, v4, v5, v6, v7⟩ := x9
            obtain ⟨hl, hP, hD, hS, hinv⟩ := hI
            have hl : lv_has ls 5 [(4, .int ii), (3, .int al), (2, .ref t0), (0, .ref h0), (1, .int 0)] := hl
            have hP : va_P D vwCl [(h0, .inr (9, fs0)), (h1, .inl (T 5, 3, .inr (.inr (.inr (.inr (va_up (va_up (va_up (fun _ => none) 0 (some t0)) 1 (some t1)) 2 (some t2))))))), (h2, .inr (1, [.int nn, .ref c1, .ref c2, .ref c3, .ref c4, .ref c5, .ref c6, .ref c7])), (c1, .inl (T 0, 24, .inl v1)), (c2, .inl (T 0, 24, .inl v2)), (c3, .inl (T 0, 24, .inl v3)), (c4, .inl (T 0, 24, .inl v4)), (c5, .inl (T 0, 24, .inl v5)), (c6, .inl (T 0, 24, .inl v6)), (c7, .inl (T 0, 24, .inl v7)), (t0, .inr (0, [.int (bn 0), .ref a0])), (t1, .inr (0, [.int (bn 1), .ref a1])), (t2, .inr (0, [.int (bn 2), .ref a2])), (a0, .inl (T 0, 12, .inl (bf 0))), (a1, .inl (T 0, 12, .inl (bf 1))), (a2, .inl (T 0, 12, .inl (bf 2)))] H := hP
            have hD : va_D A [(h0, .inr (9, fs0)), (h1, .inl (T 5, 3, .inr (.inr (.inr (.inr (va_up (va_up (va_up (fun _ => none) 0 (some t0)) 1 (some t1)) 2 (some t2))))))), (h2, .inr (1, [.int nn, .ref c1, .ref c2, .ref c3, .ref c4, .ref c5, .ref c6, .ref c7])), (c1, .inl (T 0, 24, .inl v1)), (c2, .inl (T 0, 24, .inl v2)), (c3, .inl (T 0, 24, .inl v3)), (c4, .inl (T 0, 24, .inl v4)), (c5, .inl (T 0, 24, .inl v5)), (c6, .inl (T 0, 24, .inl v6)), (c7, .inl (T 0, 24, .inl v7)), (t0, .inr (0, [.int (bn 0), .ref a0])), (t1, .inr (0, [.int (bn 1), .ref a1])), (t2, .inr (0, [.int (bn 2), .ref a2])), (a0, .inl (T 0, 12, .inl (bf 0))), (a1, .inl (T 0, 12, .inl (bf 1))), (a2, .inl (T 0, 12, .inl (bf 2)))] := hD
            have hinv : (1 ≤ ii.toInt ∧ ii.toInt ≤ (bn 0).toInt ∧ nn.toInt = n0.toInt + ii.toInt - 1 ∧ 0 ≤ al.toInt ∧ al.toInt < nn.toInt) ∧ okC v1 v3 v4 v5 ∧ (∀ A : clsA, rlC n0 f1 f2 f3 f4 A → al = (sumF (bf 0) A (ii.toNatClampNeg - 1)).1 ∧ rlC nn v1 v2 v3 v4 (sumF (bf 0) A (ii.toNatClampNeg - 1)).2) ∧ ∀ j : Nat, (j : Int) < nn.toInt → mesP v1 v2 v3 v4 v5 v6 v7 j := hinv
            obtain ⟨hii, hok, hsA, hme⟩ := hinv
            refine lv_iload hx hb dX12_sum_92 (lv_at hl 0 rfl) ?_
            refine lv_aload_n hx hb dX12_sum_94 rfl (lv_at hl 2 rfl) ?_
            refine va_get (D := D) (ci := 0) (v := .int (bn 0)) (C := RX1) (T := TX1) (N := 2) hx hb hts in_X12_sum_X1 hown hE.1 hP 10 rfl rfl 0 (by decide +kernel) (hts (.fieldLink RX12 307 "ClauseBook$Bag" "size" "I") (List.mem_of_getElem? (i := 2) rfl)) (fun _ h9 => h9) rfl dX12_sum_95 ?_
            refine lv_icmp_ge (tgt := 130) hx hb dX12_sum_98 (by decide +kernel) (fun c_7 => ?_) (fun c_7 => ?_)
            · rw [fa_le] at c_7
              refine lv_iload_n hx hb dX12_sum_130 rfl (lv_at hl 1 rfl) ?_
              exact W.iret hx hb hr (fun t ht hW => ⟨⟨_, (fun k => [fun _ => nn, v1, v2, v3, v4, v5, v6, v7].getD k f1), rfl, ⟨⟨(show 0 ≤ (nn).toInt ∧ (nn).toInt ≤ 24 from by omega), (show okC v1 v3 v4 v5 from by first | exact hok | assumption)⟩, (Or.inr (Or.inr (Or.inr ⟨(fun h9 => h9 ⟨by decide, by decide⟩), ⟨(show 1 ≤ (bn 0).toInt from by omega), hall2⟩, (show n0.toInt + (bn 0).toInt - 1 ≤ 24 from by omega), (show ii = (bn 0) from Int32.toInt_inj.1 (by omega)) ▸ hsA⟩))), hme⟩, by rw [ht]; exact hP.sub [0, 1, 2, 3, 4, 5, 6, 7, 8, 9, 10, 11, 12, 13, 14, 15] rfl, hD.sub [0, 1, 2, 3, 4, 5, 6, 7, 8, 9, 10, 11, 12, 13, 14, 15] (by decide +kernel) rfl⟩, hS.F ht⟩) hS.2.2 dX12_sum_131
            · rw [fa_le] at c_7
              refine lv_aload_n hx hb dX12_sum_101 rfl (lv_at hl 3 rfl) ?_
              refine va_get (D := D) (ci := 9) (v := .ref h2) (C := RX12) (T := TX12) (N := 11) hx hb hts in_X12_sum_X12 hown hE.1 hP 0 rfl rfl 4 (by decide +kernel) (hts (.fieldLink RX12 32 "ClauseBook" "clauses" "LClauseBook$Clauses;") (List.mem_of_getElem? (i := 3) rfl)) (fun _ h9 => h9) e0_4 dX12_sum_102 ?_
              refine va_gets (v := .ref (ad 5)) hx hb (hV.1.1.1 5 (by decide +kernel)).1 hS hown (hts (.fieldLink RX12 311 "ClauseBook$Kind" "BOTH" "LClauseBook$Kind;") (List.mem_of_getElem? (i := 6) rfl)) (fun _ h9 => h9) dX12_sum_105 ?_
              refine va_getE (i := 5) hx hb hV.1.1 (by decide +kernel) hS hown (q := kdQ "number" [0, 1, 2, 3, 4, 5, 6, 7, 8, 9, 10, 11, 12]) (List.mem_of_getElem? (i := 3) rfl) (hts (.fieldLink RX12 314 "ClauseBook$Kind" "number" "I") (List.mem_of_getElem? (i := 7) rfl)) (fun _ h9 => h9) dX12_sum_108 ?_
              refine W.eq (g2 := F0 m 111 ls [.int 5, .ref h2]) rfl ?_
              refine lv_iconst (v := 0) hx hb dX12_sum_111 (by decide +kernel) ?_
              refine lv_iload_n hx hb dX12_sum_112 rfl (lv_at hl 1 rfl) ?_
              refine lv_aload_n hx hb dX12_sum_113 rfl (lv_at hl 2 rfl) ?_
              refine va_get (D := D) (ci := 0) (v := .ref a0) (C := RX1) (T := TX1) (N := 2) hx hb hts in_X12_sum_X1 hown hE.1 hP 10 rfl rfl 1 (by decide +kernel) (hts (.fieldLink RX12 308 "ClauseBook$Bag" "numbers" "[I") (List.mem_of_getElem? (i := 4) rfl)) (fun _ h9 => h9) rfl dX12_sum_114 ?_
              refine lv_iload hx hb dX12_sum_117 (lv_at hl 0 rfl) ?_
              refine va_iald hx hb hE.1 hP 13 0 rfl rfl (by rw [vp_in_iff]; first | omega | (subst_vars; rw [dec1 (by omega)]; omega) | (subst_vars; rw [inc1 (n := 1000) (by omega) (by decide +kernel)]; omega)) dX12_sum_119 ?_
              refine lv_topi (fun z_8 ez_8 => ?_)
              have hz8 : 0 ≤ z_8.toInt ∧ z_8.toInt < n0.toInt := by rw [ez_8]; exact sum_at hall (by omega)
              have hFc := va_free (wc := [(h2, .inr (1, [.int nn, .ref c1, .ref c2, .ref c3, .ref c4, .ref c5, .ref c6, .ref c7])), (c1, .inl (T 0, 24, .inl v1)), (c2, .inl (T 0, 24, .inl v2)), (c3, .inl (T 0, 24, .inl v3)), (c4, .inl (T 0, 24, .inl v4)), (c5, .inl (T 0, 24, .inl v5)), (c6, .inl (T 0, 24, .inl v6)), (c7, .inl (T 0, 24, .inl v7))]) hD hS hA [2, 3, 4, 5, 6, 7, 8, 9] rfl
              refine va_calli (va_runV (As := [.int 5, .int 0, .int al, .int z_8]) (rest := []) ⟨hx, hb, hml, hown, hts⟩ (c_X2_append l D T ad sa av ta _ h2 nn c1 c2 c3 c4 c5 c6 c7 v1 v2 v3 v4 v5 v6 v7 5 0 al z_8 (by omega) hok (by decide +kernel) (fun _ => by omega) (fun _ => by omega) hme) (cwV 4 hts gX12_sum_X2_append rfl rfl rfl hv_X2_append ⟨Nat.le_of_ble_eq_true rfl, Nat.le_of_ble_eq_true rfl⟩) (pWk_V (q := (RX2, TX2, 8)) (ci := 1) (q0 := 2) hP hE hD hV hS hFc rfl rfl [2, 3, 4, 5, 6, 7, 8, 9] (by decide +kernel) rfl rfl) rfl rfl hl.1 rfl (lv_room (Nat.le_of_ble_eq_true rfl)) dX12_sum_120 ⟨Nat.le_of_ble_eq_true rfl, Nat.le_of_ble_eq_true rfl⟩) hS (fun q _ h => hFc q h) hFc (fun r_9 u_10 t H1 locs ht hvm hr_9 hB hz1 hk1 hS => ?_)
              obtain ⟨haru_10, ⟨hszu_10, hok⟩, hapu_10, hme⟩ := hr_9
              have hapu_10 : ((nn.toInt < 24 → (u_10 1) = upd v1 (nn.toNatClampNeg) (5 : Int32) ∧ (u_10 2) = upd v2 (nn.toNatClampNeg) (0 : Int32) ∧ (u_10 3) = upd v3 (nn.toNatClampNeg) (if 1 ≤ (nmT ((5 : Int32).toNatClampNeg)).toInt then al else -1) ∧ (u_10 4) = upd v4 (nn.toNatClampNeg) (if (nmT ((5 : Int32).toNatClampNeg)).toInt = 2 then z_8 else -1)) ∧ (¬ nn.toInt < 24 → (u_10 1) = v1 ∧ (u_10 2) = v2 ∧ (u_10 3) = v3 ∧ (u_10 4) = v4)) := hapu_10
              have hme : (∀ j : Nat, (j : Int) < (u_10 0 0).toInt → mesP (u_10 1) (u_10 2) (u_10 3) (u_10 4) (u_10 5) (u_10 6) (u_10 7) j) := hme
              obtain ⟨hP1, hD1⟩ := hB
              rw [ht] at hP1
              obtain ⟨hP, hD⟩ := va_repl [(h0, .inr (9, fs0)), (h1, .inl (T 5, 3, .inr (.inr (.inr (.inr (va_up (va_up (va_up (fun _ => none) 0 (some t0)) 1 (some t1)) 2 (some t2))))))), (h2, .inr (1, [.int (u_10 0 0), .ref c1, .ref c2, .ref c3, .ref c4, .ref c5, .ref c6, .ref c7])), (c1, .inl (T 0, 24, .inl (u_10 1))), (c2, .inl (T 0, 24, .inl (u_10 2))), (c3, .inl (T 0, 24, .inl (u_10 3))), (c4, .inl (T 0, 24, .inl (u_10 4))), (c5, .inl (T 0, 24, .inl (u_10 5))), (c6, .inl (T 0, 24, .inl (u_10 6))), (c7, .inl (T 0, 24, .inl (u_10 7))), (t0, .inr (0, [.int (bn 0), .ref a0])), (t1, .inr (0, [.int (bn 1), .ref a1])), (t2, .inr (0, [.int (bn 2), .ref a2])), (a0, .inl (T 0, 12, .inl (bf 0))), (a1, .inl (T 0, 12, .inl (bf 1))), (a2, .inl (T 0, 12, .inl (bf 2)))] hP hD [2, 3, 4, 5, 6, 7, 8, 9] [2, 3, 4, 5, 6, 7, 8, 9] rfl (by decide +kernel) rfl rfl rfl hk1 hP1
              clear hP1 hD1 hFc
              generalize H1 = H at hP hS ⊢
              obtain ⟨hr9, hr8, hr7⟩ := haru_10.resolve_left (by intro h9; omega)
              have hr6 : r_9.toInt = nn.toInt := by rw [hr8]
              refine lv_istore_n (lv' := [(3, .int r_9), (4, .int ii), (2, .ref t0), (0, .ref h0), (1, .int 0)]) hx hb dX12_sum_123 rfl hl (by decide +kernel) rfl (fun ls hl => ?_)
              obtain ⟨z_11, ez_11⟩ : ∃ y : Int32, y = ii + 1 := ⟨_, rfl⟩
              refine lv_iinc (v := z_11) (lv' := [(4, .int z_11), (3, .int r_9), (2, .ref t0), (0, .ref h0), (1, .int 0)]) hx hb dX12_sum_124 hl (k := 1) rfl (by rw [ez_11]; rfl) (by decide +kernel) rfl (fun ls hl => ?_)
              have hi9 : z_11.toInt = ii.toInt + 1 := by rw [ez_11]; exact inc1 (n := 1000) (by omega) (by decide +kernel)
              refine lv_goto (tgt := 92) hx hb dX12_sum_127 (by decide +kernel) ?_
              exact ih (z_11, r_9, (u_10 0 0), (u_10 1), (u_10 2), (u_10 3), (u_10 4), (u_10 5), (u_10 6), (u_10 7)) ls _ _ ⟨lv_sub hl [0, 1, 2, 3, 4] rfl, hP.sub [0, 1, 2, 3, 4, 5, 6, 7, 8, 9, 10, 11, 12, 13, 14, 15] rfl, hD.sub [0, 1, 2, 3, 4, 5, 6, 7, 8, 9, 10, 11, 12, 13, 14, 15] (by decide +kernel) rfl, hS, ⟨(by (try dsimp only); omega), hok, (by (try dsimp only); exact sum_stepC (by omega) hi9 hsA ez_8 hr8 hr7 (hapu_10.1 (by omega))), hme⟩⟩ (by subst_vars; (try dsimp only); rw [inc1 (i := ii) (n := 1000) (by omega) (by decide +kernel)]; omega)
          · rw [fa_le] at c_5
            try rw [ti_24] at c_5
            have hs9 : (n0 + (bn 0)).toInt = n0.toInt + (bn 0).toInt := fb_addI (by omega) (by omega)
            have hs8 := dec1 (i := n0 + (bn 0)) (by omega)
            refine lv_bipush (v := (-4)) hx hb dX12_sum_79 (by decide +kernel) ?_
            exact W.iret hx hb hr (fun t ht hW => ⟨⟨_, (fun k => [fun _ => n0, f1, f2, f3, f4, f5, f6, f7].getD k f1), rfl, ⟨⟨(show 0 ≤ (n0).toInt ∧ (n0).toInt ≤ 24 from by omega), (show okC f1 f3 f4 f5 from by first | exact hok | assumption)⟩, (Or.inr (Or.inr (Or.inl ⟨(fun h9 => h9 ⟨by decide, by decide⟩), ⟨(show 1 ≤ (bn 0).toInt from by omega), hall2⟩, (show 24 < n0.toInt + (bn 0).toInt - 1 from by omega), (by decide +kernel), ⟨rfl, rfl, rfl, rfl, rfl⟩⟩))), hme⟩, by rw [ht]; exact hP.sub [0, 1, 2, 3, 4, 5, 6, 7, 8, 9, 10, 11, 12, 13, 14, 15] rfl, hD.sub [0, 1, 2, 3, 4, 5, 6, 7, 8, 9, 10, 11, 12, 13, 14, 15] (by decide +kernel) rfl⟩, hS.F ht⟩) hS.2.2 dX12_sum_81
        · rw [fa_le] at c_4
          refine lv_aload_n hx hb dX12_sum_36 rfl (lv_at hl 2 rfl) ?_
          refine va_get (D := D) (ci := 9) (v := .ref h2) (C := RX12) (T := TX12) (N := 11) hx hb hts in_X12_sum_X12 hown hE.1 hP 0 rfl rfl 4 (by decide +kernel) (hts (.fieldLink RX12 32 "ClauseBook" "clauses" "LClauseBook$Clauses;") (List.mem_of_getElem? (i := 3) rfl)) (fun _ h9 => h9) e0_4 dX12_sum_37 ?_
          refine lv_aload_n hx hb dX12_sum_40 rfl (lv_at hl 1 rfl) ?_
          refine va_get (D := D) (ci := 0) (v := .ref a0) (C := RX1) (T := TX1) (N := 2) hx hb hts in_X12_sum_X1 hown hE.1 hP 10 rfl rfl 1 (by decide +kernel) (hts (.fieldLink RX12 308 "ClauseBook$Bag" "numbers" "[I") (List.mem_of_getElem? (i := 4) rfl)) (fun _ h9 => h9) rfl dX12_sum_41 ?_
          refine lv_iload_n hx hb dX12_sum_44 rfl (lv_at hl 0 rfl) ?_
          refine va_iald hx hb hE.1 hP 13 0 rfl rfl (by rw [vp_in_iff]; first | omega | (subst_vars; rw [dec1 (by omega)]; omega) | (subst_vars; rw [inc1 (n := 1000) (by omega) (by decide +kernel)]; omega)) dX12_sum_45 ?_
          refine lv_topi (fun z_12 ez_12 => ?_)
          refine vp_callSi (W.runV (As := [.int z_12]) (rest := []) ⟨hx, hb, hml, hown, hts⟩ (c_X2_has l D T h2 [.int n0, .ref c1, .ref c2, .ref c3, .ref c4, .ref c5, .ref c6, .ref c7] z_12 n0 rfl (by omega)) (cwV 1 hts gX12_sum_X2_has rfl rfl rfl hv_X2_has ⟨Nat.le_of_ble_eq_true rfl, Nat.le_of_ble_eq_true rfl⟩) (pR_V (q := (RX2, TX2, 8)) (ci := 1) (q0 := 2) hP hE rfl rfl [2] rfl) rfl rfl hl.1 rfl (lv_room (Nat.le_of_ble_eq_true rfl)) dX12_sum_46 ⟨Nat.le_of_ble_eq_true rfl, Nat.le_of_ble_eq_true rfl⟩) (fun r_13 hr_13 => ?_)
          rcases bool_post hr_13 with ⟨c_14, rfl⟩ | ⟨c_14, rfl⟩
          · refine lv_if_ne (tgt := 54) hx hb dX12_sum_49 (by decide +kernel) (fun _ => ?_) (fun c9 => absurd c9 (by decide +kernel))
            obtain ⟨z_15, ez_15⟩ : ∃ y : Int32, y = ii + 1 := ⟨_, rfl⟩
            refine lv_iinc (v := z_15) (lv' := [(3, .int z_15), (2, .ref t0), (0, .ref h0), (1, .int 0)]) hx hb dX12_sum_54 hl (k := 0) rfl (by rw [ez_15]; rfl) (by decide +kernel) rfl (fun ls hl => ?_)
            refine lv_goto (tgt := 28) hx hb dX12_sum_57 (by decide +kernel) ?_
            exact ih z_15 ls ⟨lv_sub hl [0, 1, 2, 3] rfl, ⟨(by subst_vars; (try dsimp only); rw [inc1 (i := ii) (n := 1000) (by omega) (by decide +kernel)]; omega), sum_step hall (by subst_vars; (try dsimp only); exact inc1 (i := ii) (n := 1000) (by omega) (by decide +kernel)) (by omega) (by rw [← ez_12]; omega)⟩⟩ (by subst_vars; (try dsimp only); rw [inc1 (i := ii) (n := 1000) (by omega) (by decide +kernel)]; omega)
          · refine lv_if_ne (tgt := 54) hx hb dX12_sum_49 (by decide +kernel) (fun c9 => absurd c9 (by decide +kernel)) (fun _ => ?_)
            refine lv_iconst (v := (-1)) hx hb dX12_sum_52 (by decide +kernel) ?_
            exact W.iret hx hb hr (fun t ht hW => ⟨⟨_, (fun k => [fun _ => n0, f1, f2, f3, f4, f5, f6, f7].getD k f1), rfl, ⟨⟨(show 0 ≤ (n0).toInt ∧ (n0).toInt ≤ 24 from by omega), (show okC f1 f3 f4 f5 from by first | exact hok | assumption)⟩, (Or.inr (Or.inl ⟨(fun h9 => h9 ⟨by decide, by decide⟩), (fun h9 => by
                  have h8 : 0 ≤ (bf 0 (ii.toNatClampNeg)).toInt ∧ (bf 0 (ii.toNatClampNeg)).toInt < n0.toInt := h9.2 (ii.toNatClampNeg) (by show ((ii.toNatClampNeg : Nat) : Int) < (bn 0).toInt; have h7 := tn (x := ii) (by omega); omega)
                  rw [← ez_12] at h8
                  omega), (by decide +kernel), ⟨rfl, rfl, rfl, rfl, rfl⟩⟩)), hme⟩, by rw [ht]; exact hP.sub [0, 1, 2, 3, 4, 5, 6, 7, 8, 9, 10, 11, 12, 13, 14, 15] rfl, hD.sub [0, 1, 2, 3, 4, 5, 6, 7, 8, 9, 10, 11, 12, 13, 14, 15] (by decide +kernel) rfl⟩, hS.F ht⟩) hS.2.2 dX12_sum_53
      · rw [fa_eq] at c_3
        try rw [ti_0] at c_3
        refine lv_iconst (v := (-1)) hx hb dX12_sum_24 (by decide +kernel) ?_
        exact W.iret hx hb hr (fun t ht hW => ⟨⟨_, (fun k => [fun _ => n0, f1, f2, f3, f4, f5, f6, f7].getD k f1), rfl, ⟨⟨(show 0 ≤ (n0).toInt ∧ (n0).toInt ≤ 24 from by omega), (show okC f1 f3 f4 f5 from by first | exact hok | assumption)⟩, (Or.inr (Or.inl ⟨(fun h9 => h9 ⟨by decide, by decide⟩), (fun h9 => by have h8 : 1 ≤ (bn 0).toInt := h9.1; omega), (by decide +kernel), ⟨rfl, rfl, rfl, rfl, rfl⟩⟩)), hme⟩, by rw [ht]; exact hP.sub [0, 1, 2, 3, 4, 5, 6, 7, 8, 9, 10, 11, 12, 13, 14, 15] rfl, hD.sub [0, 1, 2, 3, 4, 5, 6, 7, 8, 9, 10, 11, 12, 13, 14, 15] (by decide +kernel) rfl⟩, hS.F ht⟩) hS.2.2 dX12_sum_25
    · refine lv_aload_n hx hb dX12_sum_10 rfl (lv_at hl 0 rfl) ?_
      refine va_get (D := D) (ci := 9) (v := .ref h1) (C := RX12) (T := TX12) (N := 11) hx hb hts in_X12_sum_X12 hown hE.1 hP 0 rfl rfl 5 (by decide +kernel) (hts (.fieldLink RX12 37 "ClauseBook" "bags" "[LClauseBook$Bag;") (List.mem_of_getElem? (i := 1) rfl)) (fun _ h9 => h9) e0_5 dX12_sum_11 ?_
      refine lv_iload_n hx hb dX12_sum_14 rfl (lv_at hl 1 rfl) ?_
      refine va_aldq hx hb hE.1 hP 1 5 rfl rfl (by unfold vp_in; decide) dX12_sum_15 ?_
      refine W.eq (g2 := F0 m 16 ls [.ref t1]) rfl ?_
      refine lv_astore_n (lv' := [(2, .ref t1), (0, .ref h0), (1, .int 1)]) hx hb dX12_sum_16 rfl hl (by decide +kernel) rfl (fun ls hl => ?_)
      refine lv_aload_n hx hb dX12_sum_17 rfl (lv_at hl 0 rfl) ?_
      refine va_get (D := D) (ci := 0) (v := .int (bn 1)) (C := RX1) (T := TX1) (N := 2) hx hb hts in_X12_sum_X1 hown hE.1 hP 11 rfl rfl 0 (by decide +kernel) (hts (.fieldLink RX12 307 "ClauseBook$Bag" "size" "I") (List.mem_of_getElem? (i := 2) rfl)) (fun _ h9 => h9) rfl dX12_sum_18 ?_
      refine lv_if_ne (tgt := 26) hx hb dX12_sum_21 (by decide +kernel) (fun c_16 => ?_) (fun c_16 => ?_)
      · rw [fa_eq] at c_16
        try rw [ti_0] at c_16
        refine lv_iconst (v := 0) hx hb dX12_sum_26 (by decide +kernel) ?_
        refine lv_istore_n (lv' := [(3, .int 0), (2, .ref t1), (0, .ref h0), (1, .int 1)]) hx hb dX12_sum_27 rfl hl (by decide +kernel) rfl (fun ls hl => ?_)
        refine loopR (σ := (Int32)) (fun x9 ls => lv_has ls 5 [(3, .int x9), (2, .ref t1), (0, .ref h0), (1, .int 1)] ∧ (0 ≤ x9.toInt ∧ ∀ j : Nat, (j : Int) < x9.toInt → 0 ≤ (bf 1 j).toInt ∧ (bf 1 j).toInt < n0.toInt)) (fun x9 => (12 - x9.toInt).toNat) (fun x9 ls hI ih => ?_) 0 ls ⟨lv_sub hl [0, 1, 2, 3] rfl, ⟨(by (try dsimp only); decide), (fun j hj => absurd hj (by (try dsimp only); rw [ti_0]; omega))⟩⟩
        obtain ⟨ii, rfl⟩ : ∃ z, z = x9 := ⟨_, rfl⟩
        obtain ⟨hl, hinv⟩ := hI
        have hl : lv_has ls 5 [(3, .int ii), (2, .ref t1), (0, .ref h0), (1, .int 1)] := hl
        have hinv : 0 ≤ ii.toInt ∧ ∀ j : Nat, (j : Int) < ii.toInt → 0 ≤ (bf 1 j).toInt ∧ (bf 1 j).toInt < n0.toInt := hinv
        obtain ⟨hii, hall⟩ := hinv
        refine lv_iload_n hx hb dX12_sum_28 rfl (lv_at hl 0 rfl) ?_
        refine lv_aload_n hx hb dX12_sum_29 rfl (lv_at hl 1 rfl) ?_
        refine va_get (D := D) (ci := 0) (v := .int (bn 1)) (C := RX1) (T := TX1) (N := 2) hx hb hts in_X12_sum_X1 hown hE.1 hP 11 rfl rfl 0 (by decide +kernel) (hts (.fieldLink RX12 307 "ClauseBook$Bag" "size" "I") (List.mem_of_getElem? (i := 2) rfl)) (fun _ h9 => h9) rfl dX12_sum_30 ?_
        refine lv_icmp_ge (tgt := 60) hx hb dX12_sum_33 (by decide +kernel) (fun c_17 => ?_) (fun c_17 => ?_)
        · rw [fa_le] at c_17
          have hall2 : ∀ j : Nat, (j : Int) < (bn 1).toInt → 0 ≤ (bf 1 j).toInt ∧ (bf 1 j).toInt < n0.toInt := fun j hj => hall j (by omega)
          refine lv_aload_n hx hb dX12_sum_60 rfl (lv_at hl 2 rfl) ?_
          refine va_get (D := D) (ci := 9) (v := .ref h2) (C := RX12) (T := TX12) (N := 11) hx hb hts in_X12_sum_X12 hown hE.1 hP 0 rfl rfl 4 (by decide +kernel) (hts (.fieldLink RX12 32 "ClauseBook" "clauses" "LClauseBook$Clauses;") (List.mem_of_getElem? (i := 3) rfl)) (fun _ h9 => h9) e0_4 dX12_sum_61 ?_
          refine va_get (D := D) (ci := 1) (v := .int n0) (C := RX2) (T := TX2) (N := 8) hx hb hts in_X12_sum_X2 hown hE.1 hP 2 rfl rfl 0 (by decide +kernel) (hts (.fieldLink RX12 138 "ClauseBook$Clauses" "size" "I") (List.mem_of_getElem? (i := 5) rfl)) (fun _ h9 => h9) rfl dX12_sum_64 ?_
          refine lv_aload_n hx hb dX12_sum_67 rfl (lv_at hl 1 rfl) ?_
          refine va_get (D := D) (ci := 0) (v := .int (bn 1)) (C := RX1) (T := TX1) (N := 2) hx hb hts in_X12_sum_X1 hown hE.1 hP 11 rfl rfl 0 (by decide +kernel) (hts (.fieldLink RX12 307 "ClauseBook$Bag" "size" "I") (List.mem_of_getElem? (i := 2) rfl)) (fun _ h9 => h9) rfl dX12_sum_68 ?_
          refine lv_iadd hx hb dX12_sum_71 ?_
          refine lv_iconst (v := 1) hx hb dX12_sum_72 (by decide +kernel) ?_
          refine lv_isub hx hb dX12_sum_73 ?_
          refine lv_bipush (v := 24) hx hb dX12_sum_74 (by decide +kernel) ?_
          refine lv_icmp_le (tgt := 82) hx hb dX12_sum_76 (by decide +kernel) (fun c_18 => ?_) (fun c_18 => ?_)
          · rw [fa_le] at c_18
            try rw [ti_24] at c_18
            have hs9 : (n0 + (bn 1)).toInt = n0.toInt + (bn 1).toInt := fb_addI (by omega) (by omega)
            have hs8 := dec1 (i := n0 + (bn 1)) (by omega)
            refine lv_aload_n hx hb dX12_sum_82 rfl (lv_at hl 1 rfl) ?_
            refine va_get (D := D) (ci := 0) (v := .ref a1) (C := RX1) (T := TX1) (N := 2) hx hb hts in_X12_sum_X1 hown hE.1 hP 11 rfl rfl 1 (by decide +kernel) (hts (.fieldLink RX12 308 "ClauseBook$Bag" "numbers" "[I") (List.mem_of_getElem? (i := 4) rfl)) (fun _ h9 => h9) rfl dX12_sum_83 ?_
            refine lv_iconst (v := 0) hx hb dX12_sum_86 (by decide +kernel) ?_
            refine va_iald hx hb hE.1 hP 14 0 rfl rfl (by unfold vp_in; decide) dX12_sum_87 ?_
            refine lv_topi (fun z_19 ez_19 => ?_)
            have hz9 : 0 ≤ z_19.toInt ∧ z_19.toInt < n0.toInt := by rw [ez_19]; exact hall 0 (by omega)
            refine lv_istore_n (lv' := [(3, .int z_19), (2, .ref t1), (0, .ref h0), (1, .int 1)]) hx hb dX12_sum_88 rfl hl (by decide +kernel) rfl (fun ls hl => ?_)
            refine lv_iconst (v := 1) hx hb dX12_sum_89 (by decide +kernel) ?_
            refine lv_istore (lv' := [(4, .int 1), (3, .int z_19), (2, .ref t1), (0, .ref h0), (1, .int 1)]) hx hb dX12_sum_90 hl (by decide +kernel) rfl (fun ls hl => ?_)
            refine loopW (σ := (Int32) × (Int32) × (Int32) × (Nat → Int32) × (Nat → Int32) × (Nat → Int32) × (Nat → Int32) × (Nat → Int32) × (Nat → Int32) × (Nat → Int32)) (fun x9 ls H locs => lv_has ls 5 [(4, .int x9.1), (3, .int x9.2.1), (2, .ref t1), (0, .ref h0), (1, .int 1)] ∧ va_P D vwCl [(h0, .inr (9, fs0)), (h1, .inl (T 5, 3, .inr (.inr (.inr (.inr (va_up (va_up (va_up (fun _ => none) 0 (some t0)) 1 (some t1)) 2 (some t2))))))), (h2, .inr (1, [.int x9.2.2.1, .ref c1, .ref c2, .ref c3, .ref c4, .ref c5, .ref c6, .ref c7])), (c1, .inl (T 0, 24, .inl x9.2.2.2.1)), (c2, .inl (T 0, 24, .inl x9.2.2.2.2.1)), (c3, .inl (T 0, 24, .inl x9.2.2.2.2.2.1)), (c4, .inl (T 0, 24, .inl x9.2.2.2.2.2.2.1)), (c5, .inl (T 0, 24, .inl x9.2.2.2.2.2.2.2.1)), (c6, .inl (T 0, 24, .inl x9.2.2.2.2.2.2.2.2.1)), (c7, .inl (T 0, 24, .inl x9.2.2.2.2.2.2.2.2.2)), (t0, .inr (0, [.int (bn 0), .ref a0])), (t1, .inr (0, [.int (bn 1), .ref a1])), (t2, .inr (0, [.int (bn 2), .ref a2])), (a0, .inl (T 0, 12, .inl (bf 0))), (a1, .inl (T 0, 12, .inl (bf 1))), (a2, .inl (T 0, 12, .inl (bf 2)))] H ∧ va_D A [(h0, .inr (9, fs0)), (h1, .inl (T 5, 3, .inr (.inr (.inr (.inr (va_up (va_up (va_up (fun _ => none) 0 (some t0)) 1 (some t1)) 2 (some t2))))))), (h2, .inr (1, [.int x9.2.2.1, .ref c1, .ref c2, .ref c3, .ref c4, .ref c5, .ref c6, .ref c7])), (c1, .inl (T 0, 24, .inl x9.2.2.2.1)), (c2, .inl (T 0, 24, .inl x9.2.2.2.2.1)), (c3, .inl (T 0, 24, .inl x9.2.2.2.2.2.1)), (c4, .inl (T 0, 24, .inl x9.2.2.2.2.2.2.1)), (c5, .inl (T 0, 24, .inl x9.2.2.2.2.2.2.2.1)), (c6, .inl (T 0, 24, .inl x9.2.2.2.2.2.2.2.2.1)), (c7, .inl (T 0, 24, .inl x9.2.2.2.2.2.2.2.2.2)), (t0, .inr (0, [.int (bn 0), .ref a0])), (t1, .inr (0, [.int (bn 1), .ref a1])), (t2, .inr (0, [.int (bn 2), .ref a2])), (a0, .inl (T 0, 12, .inl (bf 0))), (a1, .inl (T 0, 12, .inl (bf 1))), (a2, .inl (T 0, 12, .inl (bf 2)))] ∧ va_S A s.heap H locs ∧ ((1 ≤ x9.1.toInt ∧ x9.1.toInt ≤ (bn 1).toInt ∧ x9.2.2.1.toInt = n0.toInt + x9.1.toInt - 1 ∧ 0 ≤ x9.2.1.toInt ∧ x9.2.1.toInt < x9.2.2.1.toInt) ∧ okC x9.2.2.2.1 x9.2.2.2.2.2.1 x9.2.2.2.2.2.2.1 x9.2.2.2.2.2.2.2.1 ∧ (∀ A : clsA, rlC n0 f1 f2 f3 f4 A → x9.2.1 = (sumF (bf 1) A (x9.1.toNatClampNeg - 1)).1 ∧ rlC x9.2.2.1 x9.2.2.2.1 x9.2.2.2.2.1 x9.2.2.2.2.2.1 x9.2.2.2.2.2.2.1 (sumF (bf 1) A (x9.1.toNatClampNeg - 1)).2) ∧ ∀ j : Nat, (j : Int) < x9.2.2.1.toInt → mesP x9.2.2.2.1 x9.2.2.2.2.1 x9.2.2.2.2.2.1 x9.2.2.2.2.2.2.1 x9.2.2.2.2.2.2.2.1 x9.2.2.2.2.2.2.2.2.1 x9.2.2.2.2.2.2.2.2.2 j)) (fun x9 => (12 - x9.1.toInt).toNat) (fun x9 ls H locs hI ih => ?_) (1, z_19, n0, f1, f2, f3, f4, f5, f6, f7) ls ⟨lv_sub hl [0, 1, 2, 3, 4] rfl, hP.sub [0, 1, 2, 3, 4, 5, 6, 7, 8, 9, 10, 11, 12, 13, 14, 15] rfl, hD.sub [0, 1, 2, 3, 4, 5, 6, 7, 8, 9, 10, 11, 12, 13, 14, 15] (by decide +kernel) rfl, hS, ⟨(by (try dsimp only); rw [ti_1]; omega), hok, (by (try dsimp only); intro A hA; rw [tn1']; exact ⟨(show z_19 = (bf 1) 0 from ez_19), hA⟩), hme⟩⟩
            obtain ⟨ii, al, nn, v1, v2, v3, v4, v5, v6, v7⟩ := x9
            obtain ⟨hl, hP, hD, hS, hinv⟩ := hI
            have hl : lv_has ls 5 [(4, .int ii), (3, .int al), (2, .ref t1), (0, .ref h0), (1, .int 1)] := hl
            have hP : va_P D vwCl [(h0, .inr (9, fs0)), (h1, .inl (T 5, 3, .inr (.inr (.inr (.inr (va_up (va_up (va_up (fun _ => none) 0 (some t0)) 1 (some t1)) 2 (some t2))))))), (h2, .inr (1, [.int nn, .ref c1, .ref c2, .ref c3, .ref c4, .ref c5, .ref c6, .ref c7])), (c1, .inl (T 0, 24, .inl v1)), (c2, .inl (T 0, 24, .inl v2)), (c3, .inl (T 0, 24, .inl v3)), (c4, .inl (T 0, 24, .inl v4)), (c5, .inl (T 0, 24, .inl v5)), (c6, .inl (T 0, 24, .inl v6)), (c7, .inl (T 0, 24, .inl v7)), (t0, .inr (0, [.int (bn 0), .ref a0])), (t1, .inr (0, [.int (bn 1), .ref a1])), (t2, .inr (0, [.int (bn 2), .ref a2])), (a0, .inl (T 0, 12, .inl (bf 0))), (a1, .inl (T 0, 12, .inl (bf 1))), (a2, .inl (T 0, 12, .inl (bf 2)))] H := hP
            have hD : va_D A [(h0, .inr (9, fs0)), (h1, .inl (T 5, 3, .inr (.inr (.inr (.inr (va_up (va_up (va_up (fun _ => none) 0 (some t0)) 1 (some t1)) 2 (some t2))))))), (h2, .inr (1, [.int nn, .ref c1, .ref c2, .ref c3, .ref c4, .ref c5, .ref c6, .ref c7])), (c1, .inl (T 0, 24, .inl v1)), (c2, .inl (T 0, 24, .inl v2)), (c3, .inl (T 0, 24, .inl v3)), (c4, .inl (T 0, 24, .inl v4)), (c5, .inl (T 0, 24, .inl v5)), (c6, .inl (T 0, 24, .inl v6)), (c7, .inl (T 0, 24, .inl v7)), (t0, .inr (0, [.int (bn 0), .ref a0])), (t1, .inr (0, [.int (bn 1), .ref a1])), (t2, .inr (0, [.int (bn 2), .ref a2])), (a0, .inl (T 0, 12, .inl (bf 0))), (a1, .inl (T 0, 12, .inl (bf 1))), (a2, .inl (T 0, 12, .inl (bf 2)))] := hD
            have hinv : (1 ≤ ii.toInt ∧ ii.toInt ≤ (bn 1).toInt ∧ nn.toInt = n0.toInt + ii.toInt - 1 ∧ 0 ≤ al.toInt ∧ al.toInt < nn.toInt) ∧ okC v1 v3 v4 v5 ∧ (∀ A : clsA, rlC n0 f1 f2 f3 f4 A → al = (sumF (bf 1) A (ii.toNatClampNeg - 1)).1 ∧ rlC nn v1 v2 v3 v4 (sumF (bf 1) A (ii.toNatClampNeg - 1)).2) ∧ ∀ j : Nat, (j : Int) < nn.toInt → mesP v1 v2 v3 v4 v5 v6 v7 j := hinv
            obtain ⟨hii, hok, hsA, hme⟩ := hinv
            refine lv_iload hx hb dX12_sum_92 (lv_at hl 0 rfl) ?_
            refine lv_aload_n hx hb dX12_sum_94 rfl (lv_at hl 2 rfl) ?_
            refine va_get (D := D) (ci := 0) (v := .int (bn 1)) (C := RX1) (T := TX1) (N := 2) hx hb hts in_X12_sum_X1 hown hE.1 hP 11 rfl rfl 0 (by decide +kernel) (hts (.fieldLink RX12 307 "ClauseBook$Bag" "size" "I") (List.mem_of_getElem? (i := 2) rfl)) (fun _ h9 => h9) rfl dX12_sum_95 ?_
            refine lv_icmp_ge (tgt := 130) hx hb dX12_sum_98 (by decide +kernel) (fun c_20 => ?_) (fun c_20 => ?_)
            · rw [fa_le] at c_20
              refine lv_iload_n hx hb dX12_sum_130 rfl (lv_at hl 1 rfl) ?_
              exact W.iret hx hb hr (fun t ht hW => ⟨⟨_, (fun k => [fun _ => nn, v1, v2, v3, v4, v5, v6, v7].getD k f1), rfl, ⟨⟨(show 0 ≤ (nn).toInt ∧ (nn).toInt ≤ 24 from by omega), (show okC v1 v3 v4 v5 from by first | exact hok | assumption)⟩, (Or.inr (Or.inr (Or.inr ⟨(fun h9 => h9 ⟨by decide, by decide⟩), ⟨(show 1 ≤ (bn 1).toInt from by omega), hall2⟩, (show n0.toInt + (bn 1).toInt - 1 ≤ 24 from by omega), (show ii = (bn 1) from Int32.toInt_inj.1 (by omega)) ▸ hsA⟩))), hme⟩, by rw [ht]; exact hP.sub [0, 1, 2, 3, 4, 5, 6, 7, 8, 9, 10, 11, 12, 13, 14, 15] rfl, hD.sub [0, 1, 2, 3, 4, 5, 6, 7, 8, 9, 10, 11, 12, 13, 14, 15] (by decide +kernel) rfl⟩, hS.F ht⟩) hS.2.2 dX12_sum_131
            · rw [fa_le] at c_20
              refine lv_aload_n hx hb dX12_sum_101 rfl (lv_at hl 3 rfl) ?_
              refine va_get (D := D) (ci := 9) (v := .ref h2) (C := RX12) (T := TX12) (N := 11) hx hb hts in_X12_sum_X12 hown hE.1 hP 0 rfl rfl 4 (by decide +kernel) (hts (.fieldLink RX12 32 "ClauseBook" "clauses" "LClauseBook$Clauses;") (List.mem_of_getElem? (i := 3) rfl)) (fun _ h9 => h9) e0_4 dX12_sum_102 ?_
              refine va_gets (v := .ref (ad 5)) hx hb (hV.1.1.1 5 (by decide +kernel)).1 hS hown (hts (.fieldLink RX12 311 "ClauseBook$Kind" "BOTH" "LClauseBook$Kind;") (List.mem_of_getElem? (i := 6) rfl)) (fun _ h9 => h9) dX12_sum_105 ?_
              refine va_getE (i := 5) hx hb hV.1.1 (by decide +kernel) hS hown (q := kdQ "number" [0, 1, 2, 3, 4, 5, 6, 7, 8, 9, 10, 11, 12]) (List.mem_of_getElem? (i := 3) rfl) (hts (.fieldLink RX12 314 "ClauseBook$Kind" "number" "I") (List.mem_of_getElem? (i := 7) rfl)) (fun _ h9 => h9) dX12_sum_108 ?_
              refine W.eq (g2 := F0 m 111 ls [.int 5, .ref h2]) rfl ?_
              refine lv_iconst (v := 0) hx hb dX12_sum_111 (by decide +kernel) ?_
              refine lv_iload_n hx hb dX12_sum_112 rfl (lv_at hl 1 rfl) ?_
              refine lv_aload_n hx hb dX12_sum_113 rfl (lv_at hl 2 rfl) ?_
              refine va_get (D := D) (ci := 0) (v := .ref a1) (C := RX1) (T := TX1) (N := 2) hx hb hts in_X12_sum_X1 hown hE.1 hP 11 rfl rfl 1 (by decide +kernel) (hts (.fieldLink RX12 308 "ClauseBook$Bag" "numbers" "[I") (List.mem_of_getElem? (i := 4) rfl)) (fun _ h9 => h9) rfl dX12_sum_114 ?_
              refine lv_iload hx hb dX12_sum_117 (lv_at hl 0 rfl) ?_
              refine va_iald hx hb hE.1 hP 14 0 rfl rfl (by rw [vp_in_iff]; first | omega | (subst_vars; rw [dec1 (by omega)]; omega) | (subst_vars; rw [inc1 (n := 1000) (by omega) (by decide +kernel)]; omega)) dX12_sum_119 ?_
              refine lv_topi (fun z_21 ez_21 => ?_)
              have hz8 : 0 ≤ z_21.toInt ∧ z_21.toInt < n0.toInt := by rw [ez_21]; exact sum_at hall (by omega)
              have hFc := va_free (wc := [(h2, .inr (1, [.int nn, .ref c1, .ref c2, .ref c3, .ref c4, .ref c5, .ref c6, .ref c7])), (c1, .inl (T 0, 24, .inl v1)), (c2, .inl (T 0, 24, .inl v2)), (c3, .inl (T 0, 24, .inl v3)), (c4, .inl (T 0, 24, .inl v4)), (c5, .inl (T 0, 24, .inl v5)), (c6, .inl (T 0, 24, .inl v6)), (c7, .inl (T 0, 24, .inl v7))]) hD hS hA [2, 3, 4, 5, 6, 7, 8, 9] rfl
              refine va_calli (va_runV (As := [.int 5, .int 0, .int al, .int z_21]) (rest := []) ⟨hx, hb, hml, hown, hts⟩ (c_X2_append l D T ad sa av ta _ h2 nn c1 c2 c3 c4 c5 c6 c7 v1 v2 v3 v4 v5 v6 v7 5 0 al z_21 (by omega) hok (by decide +kernel) (fun _ => by omega) (fun _ => by omega) hme) (cwV 4 hts gX12_sum_X2_append rfl rfl rfl hv_X2_append ⟨Nat.le_of_ble_eq_true rfl, Nat.le_of_ble_eq_true rfl⟩) (pWk_V (q := (RX2, TX2, 8)) (ci := 1) (q0 := 2) hP hE hD hV hS hFc rfl rfl [2, 3, 4, 5, 6, 7, 8, 9] (by decide +kernel) rfl rfl) rfl rfl hl.1 rfl (lv_room (Nat.le_of_ble_eq_true rfl)) dX12_sum_120 ⟨Nat.le_of_ble_eq_true rfl, Nat.le_of_ble_eq_true rfl⟩) hS (fun q _ h => hFc q h) hFc (fun r_22 u_23 t H1 locs ht hvm hr_22 hB hz1 hk1 hS => ?_)
              obtain ⟨haru_23, ⟨hszu_23, hok⟩, hapu_23, hme⟩ := hr_22
              have hapu_23 : ((nn.toInt < 24 → (u_23 1) = upd v1 (nn.toNatClampNeg) (5 : Int32) ∧ (u_23 2) = upd v2 (nn.toNatClampNeg) (0 : Int32) ∧ (u_23 3) = upd v3 (nn.toNatClampNeg) (if 1 ≤ (nmT ((5 : Int32).toNatClampNeg)).toInt then al else -1) ∧ (u_23 4) = upd v4 (nn.toNatClampNeg) (if (nmT ((5 : Int32).toNatClampNeg)).toInt = 2 then z_21 else -1)) ∧ (¬ nn.toInt < 24 → (u_23 1) = v1 ∧ (u_23 2) = v2 ∧ (u_23 3) = v3 ∧ (u_23 4) = v4)) := hapu_23
              have hme : (∀ j : Nat, (j : Int) < (u_23 0 0).toInt → mesP (u_23 1) (u_23 2) (u_23 3) (u_23 4) (u_23 5) (u_23 6) (u_23 7) j) := hme
              obtain ⟨hP1, hD1⟩ := hB
              rw [ht] at hP1
              obtain ⟨hP, hD⟩ := va_repl [(h0, .inr (9, fs0)), (h1, .inl (T 5, 3, .inr (.inr (.inr (.inr (va_up (va_up (va_up (fun _ => none) 0 (some t0)) 1 (some t1)) 2 (some t2))))))), (h2, .inr (1, [.int (u_23 0 0), .ref c1, .ref c2, .ref c3, .ref c4, .ref c5, .ref c6, .ref c7])), (c1, .inl (T 0, 24, .inl (u_23 1))), (c2, .inl (T 0, 24, .inl (u_23 2))), (c3, .inl (T 0, 24, .inl (u_23 3))), (c4, .inl (T 0, 24, .inl (u_23 4))), (c5, .inl (T 0, 24, .inl (u_23 5))), (c6, .inl (T 0, 24, .inl (u_23 6))), (c7, .inl (T 0, 24, .inl (u_23 7))), (t0, .inr (0, [.int (bn 0), .ref a0])), (t1, .inr (0, [.int (bn 1), .ref a1])), (t2, .inr (0, [.int (bn 2), .ref a2])), (a0, .inl (T 0, 12, .inl (bf 0))), (a1, .inl (T 0, 12, .inl (bf 1))), (a2, .inl (T 0, 12, .inl (bf 2)))] hP hD [2, 3, 4, 5, 6, 7, 8, 9] [2, 3, 4, 5, 6, 7, 8, 9] rfl (by decide +kernel) rfl rfl rfl hk1 hP1
              clear hP1 hD1 hFc
              generalize H1 = H at hP hS ⊢
              obtain ⟨hr9, hr8, hr7⟩ := haru_23.resolve_left (by intro h9; omega)
              have hr6 : r_22.toInt = nn.toInt := by rw [hr8]
              refine lv_istore_n (lv' := [(3, .int r_22), (4, .int ii), (2, .ref t1), (0, .ref h0), (1, .int 1)]) hx hb dX12_sum_123 rfl hl (by decide +kernel) rfl (fun ls hl => ?_)
              obtain ⟨z_24, ez_24⟩ : ∃ y : Int32, y = ii + 1 := ⟨_, rfl⟩
              refine lv_iinc (v := z_24) (lv' := [(4, .int z_24), (3, .int r_22), (2, .ref t1), (0, .ref h0), (1, .int 1)]) hx hb dX12_sum_124 hl (k := 1) rfl (by rw [ez_24]; rfl) (by decide +kernel) rfl (fun ls hl => ?_)
              have hi9 : z_24.toInt = ii.toInt + 1 := by rw [ez_24]; exact inc1 (n := 1000) (by omega) (by decide +kernel)
              refine lv_goto (tgt := 92) hx hb dX12_sum_127 (by decide +kernel) ?_
              exact ih (z_24, r_22, (u_23 0 0), (u_23 1), (u_23 2), (u_23 3), (u_23 4), (u_23 5), (u_23 6), (u_23 7)) ls _ _ ⟨lv_sub hl [0, 1, 2, 3, 4] rfl, hP.sub [0, 1, 2, 3, 4, 5, 6, 7, 8, 9, 10, 11, 12, 13, 14, 15] rfl, hD.sub [0, 1, 2, 3, 4, 5, 6, 7, 8, 9, 10, 11, 12, 13, 14, 15] (by decide +kernel) rfl, hS, ⟨(by (try dsimp only); omega), hok, (by (try dsimp only); exact sum_stepC (by omega) hi9 hsA ez_21 hr8 hr7 (hapu_23.1 (by omega))), hme⟩⟩ (by subst_vars; (try dsimp only); rw [inc1 (i := ii) (n := 1000) (by omega) (by decide +kernel)]; omega)
          · rw [fa_le] at c_18
            try rw [ti_24] at c_18
            have hs9 : (n0 + (bn 1)).toInt = n0.toInt + (bn 1).toInt := fb_addI (by omega) (by omega)
            have hs8 := dec1 (i := n0 + (bn 1)) (by omega)
            refine lv_bipush (v := (-4)) hx hb dX12_sum_79 (by decide +kernel) ?_
            exact W.iret hx hb hr (fun t ht hW => ⟨⟨_, (fun k => [fun _ => n0, f1, f2, f3, f4, f5, f6, f7].getD k f1), rfl, ⟨⟨(show 0 ≤ (n0).toInt ∧ (n0).toInt ≤ 24 from by omega), (show okC f1 f3 f4 f5 from by first | exact hok | assumption)⟩, (Or.inr (Or.inr (Or.inl ⟨(fun h9 => h9 ⟨by decide, by decide⟩), ⟨(show 1 ≤ (bn 1).toInt from by omega), hall2⟩, (show 24 < n0.toInt + (bn 1).toInt - 1 from by omega), (by decide +kernel), ⟨rfl, rfl, rfl, rfl, rfl⟩⟩))), hme⟩, by rw [ht]; exact hP.sub [0, 1, 2, 3, 4, 5, 6, 7, 8, 9, 10, 11, 12, 13, 14, 15] rfl, hD.sub [0, 1, 2, 3, 4, 5, 6, 7, 8, 9, 10, 11, 12, 13, 14, 15] (by decide +kernel) rfl⟩, hS.F ht⟩) hS.2.2 dX12_sum_81
        · rw [fa_le] at c_17
          refine lv_aload_n hx hb dX12_sum_36 rfl (lv_at hl 2 rfl) ?_
          refine va_get (D := D) (ci := 9) (v := .ref h2) (C := RX12) (T := TX12) (N := 11) hx hb hts in_X12_sum_X12 hown hE.1 hP 0 rfl rfl 4 (by decide +kernel) (hts (.fieldLink RX12 32 "ClauseBook" "clauses" "LClauseBook$Clauses;") (List.mem_of_getElem? (i := 3) rfl)) (fun _ h9 => h9) e0_4 dX12_sum_37 ?_
          refine lv_aload_n hx hb dX12_sum_40 rfl (lv_at hl 1 rfl) ?_
          refine va_get (D := D) (ci := 0) (v := .ref a1) (C := RX1) (T := TX1) (N := 2) hx hb hts in_X12_sum_X1 hown hE.1 hP 11 rfl rfl 1 (by decide +kernel) (hts (.fieldLink RX12 308 "ClauseBook$Bag" "numbers" "[I") (List.mem_of_getElem? (i := 4) rfl)) (fun _ h9 => h9) rfl dX12_sum_41 ?_
          refine lv_iload_n hx hb dX12_sum_44 rfl (lv_at hl 0 rfl) ?_
          refine va_iald hx hb hE.1 hP 14 0 rfl rfl (by rw [vp_in_iff]; first | omega | (subst_vars; rw [dec1 (by omega)]; omega) | (subst_vars; rw [inc1 (n := 1000) (by omega) (by decide +kernel)]; omega)) dX12_sum_45 ?_
          refine lv_topi (fun z_25 ez_25 => ?_)
          refine vp_callSi (W.runV (As := [.int z_25]) (rest := []) ⟨hx, hb, hml, hown, hts⟩ (c_X2_has l D T h2 [.int n0, .ref c1, .ref c2, .ref c3, .ref c4, .ref c5, .ref c6, .ref c7] z_25 n0 rfl (by omega)) (cwV 1 hts gX12_sum_X2_has rfl rfl rfl hv_X2_has ⟨Nat.le_of_ble_eq_true rfl, Nat.le_of_ble_eq_true rfl⟩) (pR_V (q := (RX2, TX2, 8)) (ci := 1) (q0 := 2) hP hE rfl rfl [2] rfl) rfl rfl hl.1 rfl (lv_room (Nat.le_of_ble_eq_true rfl)) dX12_sum_46 ⟨Nat.le_of_ble_eq_true rfl, Nat.le_of_ble_eq_true rfl⟩) (fun r_26 hr_26 => ?_)
          rcases bool_post hr_26 with ⟨c_27, rfl⟩ | ⟨c_27, rfl⟩
          · refine lv_if_ne (tgt := 54) hx hb dX12_sum_49 (by decide +kernel) (fun _ => ?_) (fun c9 => absurd c9 (by decide +kernel))
            obtain ⟨z_28, ez_28⟩ : ∃ y : Int32, y = ii + 1 := ⟨_, rfl⟩
            refine lv_iinc (v := z_28) (lv' := [(3, .int z_28), (2, .ref t1), (0, .ref h0), (1, .int 1)]) hx hb dX12_sum_54 hl (k := 0) rfl (by rw [ez_28]; rfl) (by decide +kernel) rfl (fun ls hl => ?_)
            refine lv_goto (tgt := 28) hx hb dX12_sum_57 (by decide +kernel) ?_
            exact ih z_28 ls ⟨lv_sub hl [0, 1, 2, 3] rfl, ⟨(by subst_vars; (try dsimp only); rw [inc1 (i := ii) (n := 1000) (by omega) (by decide +kernel)]; omega), sum_step hall (by subst_vars; (try dsimp only); exact inc1 (i := ii) (n := 1000) (by omega) (by decide +kernel)) (by omega) (by rw [← ez_25]; omega)⟩⟩ (by subst_vars; (try dsimp only); rw [inc1 (i := ii) (n := 1000) (by omega) (by decide +kernel)]; omega)
          · refine lv_if_ne (tgt := 54) hx hb dX12_sum_49 (by decide +kernel) (fun c9 => absurd c9 (by decide +kernel)) (fun _ => ?_)
            refine lv_iconst (v := (-1)) hx hb dX12_sum_52 (by decide +kernel) ?_
            exact W.iret hx hb hr (fun t ht hW => ⟨⟨_, (fun k => [fun _ => n0, f1, f2, f3, f4, f5, f6, f7].getD k f1), rfl, ⟨⟨(show 0 ≤ (n0).toInt ∧ (n0).toInt ≤ 24 from by omega), (show okC f1 f3 f4 f5 from by first | exact hok | assumption)⟩, (Or.inr (Or.inl ⟨(fun h9 => h9 ⟨by decide, by decide⟩), (fun h9 => by
                  have h8 : 0 ≤ (bf 1 (ii.toNatClampNeg)).toInt ∧ (bf 1 (ii.toNatClampNeg)).toInt < n0.toInt := h9.2 (ii.toNatClampNeg) (by show ((ii.toNatClampNeg : Nat) : Int) < (bn 1).toInt; have h7 := tn (x := ii) (by omega); omega)
                  rw [← ez_25] at h8
                  omega), (by decide +kernel), ⟨rfl, rfl, rfl, rfl, rfl⟩⟩)), hme⟩, by rw [ht]; exact hP.sub [0, 1, 2, 3, 4, 5, 6, 7, 8, 9, 10, 11, 12, 13, 14, 15] rfl, hD.sub [0, 1, 2, 3, 4, 5, 6, 7, 8, 9, 10, 11, 12, 13, 14, 15] (by decide +kernel) rfl⟩, hS.F ht⟩) hS.2.2 dX12_sum_53
      · rw [fa_eq] at c_16
        try rw [ti_0] at c_16
        refine lv_iconst (v := (-1)) hx hb dX12_sum_24 (by decide +kernel) ?_
        exact W.iret hx hb hr (fun t ht hW => ⟨⟨_, (fun k => [fun _ => n0, f1, f2, f3, f4, f5, f6, f7].getD k f1), rfl, ⟨⟨(show 0 ≤ (n0).toInt ∧ (n0).toInt ≤ 24 from by omega), (show okC f1 f3 f4 f5 from by first | exact hok | assumption)⟩, (Or.inr (Or.inl ⟨(fun h9 => h9 ⟨by decide, by decide⟩), (fun h9 => by have h8 : 1 ≤ (bn 1).toInt := h9.1; omega), (by decide +kernel), ⟨rfl, rfl, rfl, rfl, rfl⟩⟩)), hme⟩, by rw [ht]; exact hP.sub [0, 1, 2, 3, 4, 5, 6, 7, 8, 9, 10, 11, 12, 13, 14, 15] rfl, hD.sub [0, 1, 2, 3, 4, 5, 6, 7, 8, 9, 10, 11, 12, 13, 14, 15] (by decide +kernel) rfl⟩, hS.F ht⟩) hS.2.2 dX12_sum_25
    · refine lv_aload_n hx hb dX12_sum_10 rfl (lv_at hl 0 rfl) ?_
      refine va_get (D := D) (ci := 9) (v := .ref h1) (C := RX12) (T := TX12) (N := 11) hx hb hts in_X12_sum_X12 hown hE.1 hP 0 rfl rfl 5 (by decide +kernel) (hts (.fieldLink RX12 37 "ClauseBook" "bags" "[LClauseBook$Bag;") (List.mem_of_getElem? (i := 1) rfl)) (fun _ h9 => h9) e0_5 dX12_sum_11 ?_
      refine lv_iload_n hx hb dX12_sum_14 rfl (lv_at hl 1 rfl) ?_
      refine va_aldq hx hb hE.1 hP 1 5 rfl rfl (by unfold vp_in; decide) dX12_sum_15 ?_
      refine W.eq (g2 := F0 m 16 ls [.ref t2]) rfl ?_
      refine lv_astore_n (lv' := [(2, .ref t2), (0, .ref h0), (1, .int 2)]) hx hb dX12_sum_16 rfl hl (by decide +kernel) rfl (fun ls hl => ?_)
      refine lv_aload_n hx hb dX12_sum_17 rfl (lv_at hl 0 rfl) ?_
      refine va_get (D := D) (ci := 0) (v := .int (bn 2)) (C := RX1) (T := TX1) (N := 2) hx hb hts in_X12_sum_X1 hown hE.1 hP 12 rfl rfl 0 (by decide +kernel) (hts (.fieldLink RX12 307 "ClauseBook$Bag" "size" "I") (List.mem_of_getElem? (i := 2) rfl)) (fun _ h9 => h9) rfl dX12_sum_18 ?_
      refine lv_if_ne (tgt := 26) hx hb dX12_sum_21 (by decide +kernel) (fun c_29 => ?_) (fun c_29 => ?_)
      · rw [fa_eq] at c_29
        try rw [ti_0] at c_29
        refine lv_iconst (v := 0) hx hb dX12_sum_26 (by decide +kernel) ?_
        refine lv_istore_n (lv' := [(3, .int 0), (2, .ref t2), (0, .ref h0), (1, .int 2)]) hx hb dX12_sum_27 rfl hl (by decide +kernel) rfl (fun ls hl => ?_)
        refine loopR (σ := (Int32)) (fun x9 ls => lv_has ls 5 [(3, .int x9), (2, .ref t2), (0, .ref h0), (1, .int 2)] ∧ (0 ≤ x9.toInt ∧ ∀ j : Nat, (j : Int) < x9.toInt → 0 ≤ (bf 2 j).toInt ∧ (bf 2 j).toInt < n0.toInt)) (fun x9 => (12 - x9.toInt).toNat) (fun x9 ls hI ih => ?_) 0 ls ⟨lv_sub hl [0, 1, 2, 3] rfl, ⟨(by (try dsimp only); decide), (fun j hj => absurd hj (by (try dsimp only); rw [ti_0]; omega))⟩⟩
        obtain ⟨ii, rfl⟩ : ∃ z, z = x9 := ⟨_, rfl⟩
        obtain ⟨hl, hinv⟩ := hI
        have hl : lv_has ls 5 [(3, .int ii), (2, .ref t2), (0, .ref h0), (1, .int 2)] := hl
        have hinv : 0 ≤ ii.toInt ∧ ∀ j : Nat, (j : Int) < ii.toInt → 0 ≤ (bf 2 j).toInt ∧ (bf 2 j).toInt < n0.toInt := hinv
        obtain ⟨hii, hall⟩ := hinv
        refine lv_iload_n hx hb dX12_sum_28 rfl (lv_at hl 0 rfl) ?_
        refine lv_aload_n hx hb dX12_sum_29 rfl (lv_at hl 1 rfl) ?_
        refine va_get (D := D) (ci := 0) (v := .int (bn 2)) (C := RX1) (T := TX1) (N := 2) hx hb hts in_X12_sum_X1 hown hE.1 hP 12 rfl rfl 0 (by decide +kernel) (hts (.fieldLink RX12 307 "ClauseBook$Bag" "size" "I") (List.mem_of_getElem? (i := 2) rfl)) (fun _ h9 => h9) rfl dX12_sum_30 ?_
        refine lv_icmp_ge (tgt := 60) hx hb dX12_sum_33 (by decide +kernel) (fun c_30 => ?_) (fun c_30 => ?_)
        · rw [fa_le] at c_30
          have hall2 : ∀ j : Nat, (j : Int) < (bn 2).toInt → 0 ≤ (bf 2 j).toInt ∧ (bf 2 j).toInt < n0.toInt := fun j hj => hall j (by omega)
          refine lv_aload_n hx hb dX12_sum_60 rfl (lv_at hl 2 rfl) ?_
          refine va_get (D := D) (ci := 9) (v := .ref h2) (C := RX12) (T := TX12) (N := 11) hx hb hts in_X12_sum_X12 hown hE.1 hP 0 rfl rfl 4 (by decide +kernel) (hts (.fieldLink RX12 32 "ClauseBook" "clauses" "LClauseBook$Clauses;") (List.mem_of_getElem? (i := 3) rfl)) (fun _ h9 => h9) e0_4 dX12_sum_61 ?_
          refine va_get (D := D) (ci := 1) (v := .int n0) (C := RX2) (T := TX2) (N := 8) hx hb hts in_X12_sum_X2 hown hE.1 hP 2 rfl rfl 0 (by decide +kernel) (hts (.fieldLink RX12 138 "ClauseBook$Clauses" "size" "I") (List.mem_of_getElem? (i := 5) rfl)) (fun _ h9 => h9) rfl dX12_sum_64 ?_
          refine lv_aload_n hx hb dX12_sum_67 rfl (lv_at hl 1 rfl) ?_
          refine va_get (D := D) (ci := 0) (v := .int (bn 2)) (C := RX1) (T := TX1) (N := 2) hx hb hts in_X12_sum_X1 hown hE.1 hP 12 rfl rfl 0 (by decide +kernel) (hts (.fieldLink RX12 307 "ClauseBook$Bag" "size" "I") (List.mem_of_getElem? (i := 2) rfl)) (fun _ h9 => h9) rfl dX12_sum_68 ?_
          refine lv_iadd hx hb dX12_sum_71 ?_
          refine lv_iconst (v := 1) hx hb dX12_sum_72 (by decide +kernel) ?_
          refine lv_isub hx hb dX12_sum_73 ?_
          refine lv_bipush (v := 24) hx hb dX12_sum_74 (by decide +kernel) ?_
          refine lv_icmp_le (tgt := 82) hx hb dX12_sum_76 (by decide +kernel) (fun c_31 => ?_) (fun c_31 => ?_)
          · rw [fa_le] at c_31
            try rw [ti_24] at c_31
            have hs9 : (n0 + (bn 2)).toInt = n0.toInt + (bn 2).toInt := fb_addI (by omega) (by omega)
            have hs8 := dec1 (i := n0 + (bn 2)) (by omega)
            refine lv_aload_n hx hb dX12_sum_82 rfl (lv_at hl 1 rfl) ?_
            refine va_get (D := D) (ci := 0) (v := .ref a2) (C := RX1) (T := TX1) (N := 2) hx hb hts in_X12_sum_X1 hown hE.1 hP 12 rfl rfl 1 (by decide +kernel) (hts (.fieldLink RX12 308 "ClauseBook$Bag" "numbers" "[I") (List.mem_of_getElem? (i := 4) rfl)) (fun _ h9 => h9) rfl dX12_sum_83 ?_
            refine lv_iconst (v := 0) hx hb dX12_sum_86 (by decide +kernel) ?_
            refine va_iald hx hb hE.1 hP 15 0 rfl rfl (by unfold vp_in; decide) dX12_sum_87 ?_
            refine lv_topi (fun z_32 ez_32 => ?_)
            have hz9 : 0 ≤ z_32.toInt ∧ z_32.toInt < n0.toInt := by rw [ez_32]; exact hall 0 (by omega)
            refine lv_istore_n (lv' := [(3, .int z_32), (2, .ref t2), (0, .ref h0), (1, .int 2)]) hx hb dX12_sum_88 rfl hl (by decide +kernel) rfl (fun ls hl => ?_)
            refine lv_iconst (v := 1) hx hb dX12_sum_89 (by decide +kernel) ?_
            refine lv_istore (lv' := [(4, .int 1), (3, .int z_32), (2, .ref t2), (0, .ref h0), (1, .int 2)]) hx hb dX12_sum_90 hl (by decide +kernel) rfl (fun ls hl => ?_)
            refine loopW (σ := (Int32) × (Int32) × (Int32) × (Nat → Int32) × (Nat → Int32) × (Nat → Int32) × (Nat → Int32) × (Nat → Int32) × (Nat → Int32) × (Nat → Int32)) (fun x9 ls H locs => lv_has ls 5 [(4, .int x9.1), (3, .int x9.2.1), (2, .ref t2), (0, .ref h0), (1, .int 2)] ∧ va_P D vwCl [(h0, .inr (9, fs0)), (h1, .inl (T 5, 3, .inr (.inr (.inr (.inr (va_up (va_up (va_up (fun _ => none) 0 (some t0)) 1 (some t1)) 2 (some t2))))))), (h2, .inr (1, [.int x9.2.2.1, .ref c1, .ref c2, .ref c3, .ref c4, .ref c5, .ref c6, .ref c7])), (c1, .inl (T 0, 24, .inl x9.2.2.2.1)), (c2, .inl (T 0, 24, .inl x9.2.2.2.2.1)), (c3, .inl (T 0, 24, .inl x9.2.2.2.2.2.1)), (c4, .inl (T 0, 24, .inl x9.2.2.2.2.2.2.1)), (c5, .inl (T 0, 24, .inl x9.2.2.2.2.2.2.2.1)), (c6, .inl (T 0, 24, .inl x9.2.2.2.2.2.2.2.2.1)), (c7, .inl (T 0, 24, .inl x9.2.2.2.2.2.2.2.2.2)), (t0, .inr (0, [.int (bn 0), .ref a0])), (t1, .inr (0, [.int (bn 1), .ref a1])), (t2, .inr (0, [.int (bn 2), .ref a2])), (a0, .inl (T 0, 12, .inl (bf 0))), (a1, .inl (T 0, 12, .inl (bf 1))), (a2, .inl (T 0, 12, .inl (bf 2)))] H ∧ va_D A [(h0, .inr (9, fs0)), (h1, .inl (T 5, 3, .inr (.inr (.inr (.inr (va_up (va_up (va_up (fun _ => none) 0 (some t0)) 1 (some t1)) 2 (some t2))))))), (h2, .inr (1, [.int x9.2.2.1, .ref c1, .ref c2, .ref c3, .ref c4, .ref c5, .ref c6, .ref c7])), (c1, .inl (T 0, 24, .inl x9.2.2.2.1)), (c2, .inl (T 0, 24, .inl x9.2.2.2.2.1)), (c3, .inl (T 0, 24, .inl x9.2.2.2.2.2.1)), (c4, .inl (T 0, 24, .inl x9.2.2.2.2.2.2.1)), (c5, .inl (T 0, 24, .inl x9.2.2.2.2.2.2.2.1)), (c6, .inl (T 0, 24, .inl x9.2.2.2.2.2.2.2.2.1)), (c7, .inl (T 0, 24, .inl x9.2.2.2.2.2.2.2.2.2)), (t0, .inr (0, [.int (bn 0), .ref a0])), (t1, .inr (0, [.int (bn 1), .ref a1])), (t2, .inr (0, [.int (bn 2), .ref a2])), (a0, .inl (T 0, 12, .inl (bf 0))), (a1, .inl (T 0, 12, .inl (bf 1))), (a2, .inl (T 0, 12, .inl (bf 2)))] ∧ va_S A s.heap H locs ∧ ((1 ≤ x9.1.toInt ∧ x9.1.toInt ≤ (bn 2).toInt ∧ x9.2.2.1.toInt = n0.toInt + x9.1.toInt - 1 ∧ 0 ≤ x9.2.1.toInt ∧ x9.2.1.toInt < x9.2.2.1.toInt) ∧ okC x9.2.2.2.1 x9.2.2.2.2.2.1 x9.2.2.2.2.2.2.1 x9.2.2.2.2.2.2.2.1 ∧ (∀ A : clsA, rlC n0 f1 f2 f3 f4 A → x9.2.1 = (sumF (bf 2) A (x9.1.toNatClampNeg - 1)).1 ∧ rlC x9.2.2.1 x9.2.2.2.1 x9.2.2.2.2.1 x9.2.2.2.2.2.1 x9.2.2.2.2.2.2.1 (sumF (bf 2) A (x9.1.toNatClampNeg - 1)).2) ∧ ∀ j : Nat, (j : Int) < x9.2.2.1.toInt → mesP x9.2.2.2.1 x9.2.2.2.2.1 x9.2.2.2.2.2.1 x9.2.2.2.2.2.2.1 x9.2.2.2.2.2.2.2.1 x9.2.2.2.2.2.2.2.2.1 x9.2.2.2.2.2.2.2.2.2 j)) (fun x9 => (12 - x9.1.toInt).toNat) (fun x9 ls H locs hI ih => ?_) (1, z_32, n0, f1, f2, f3, f4, f5, f6, f7) ls ⟨lv_sub hl [0, 1, 2, 3, 4] rfl, hP.sub [0, 1, 2, 3, 4, 5, 6, 7, 8, 9, 10, 11, 12, 13, 14, 15] rfl, hD.sub [0, 1, 2, 3, 4, 5, 6, 7, 8, 9, 10, 11, 12, 13, 14, 15] (by decide +kernel) rfl, hS, ⟨(by (try dsimp only); rw [ti_1]; omega), hok, (by (try dsimp only); intro A hA; rw [tn1']; exact ⟨(show z_32 = (bf 2) 0 from ez_32), hA⟩), hme⟩⟩
            obtain ⟨ii, al, nn, v1, v2, v3, v4, v5, v6, v7⟩ := x9
            obtain ⟨hl, hP, hD, hS, hinv⟩ := hI
            have hl : lv_has ls 5 [(4, .int ii), (3, .int al), (2, .ref t2), (0, .ref h0), (1, .int 2)] := hl
            have hP : va_P D vwCl [(h0, .inr (9, fs0)), (h1, .inl (T 5, 3, .inr (.inr (.inr (.inr (va_up (va_up (va_up (fun _ => none) 0 (some t0)) 1 (some t1)) 2 (some t2))))))), (h2, .inr (1, [.int nn, .ref c1, .ref c2, .ref c3, .ref c4, .ref c5, .ref c6, .ref c7])), (c1, .inl (T 0, 24, .inl v1)), (c2, .inl (T 0, 24, .inl v2)), (c3, .inl (T 0, 24, .inl v3)), (c4, .inl (T 0, 24, .inl v4)), (c5, .inl (T 0, 24, .inl v5)), (c6, .inl (T 0, 24, .inl v6)), (c7, .inl (T 0, 24, .inl v7)), (t0, .inr (0, [.int (bn 0), .ref a0])), (t1, .inr (0, [.int (bn 1), .ref a1])), (t2, .inr (0, [.int (bn 2), .ref a2])), (a0, .inl (T 0, 12, .inl (bf 0))), (a1, .inl (T 0, 12, .inl (bf 1))), (a2, .inl (T 0, 12, .inl (bf 2)))] H := hP
            have hD : va_D A [(h0, .inr (9, fs0)), (h1, .inl (T 5, 3, .inr (.inr (.inr (.inr (va_up (va_up (va_up (fun _ => none) 0 (some t0)) 1 (some t1)) 2 (some t2))))))), (h2, .inr (1, [.int nn, .ref c1, .ref c2, .ref c3, .ref c4, .ref c5, .ref c6, .ref c7])), (c1, .inl (T 0, 24, .inl v1)), (c2, .inl (T 0, 24, .inl v2)), (c3, .inl (T 0, 24, .inl v3)), (c4, .inl (T 0, 24, .inl v4)), (c5, .inl (T 0, 24, .inl v5)), (c6, .inl (T 0, 24, .inl v6)), (c7, .inl (T 0, 24, .inl v7)), (t0, .inr (0, [.int (bn 0), .ref a0])), (t1, .inr (0, [.int (bn 1), .ref a1])), (t2, .inr (0, [.int (bn 2), .ref a2])), (a0, .inl (T 0, 12, .inl (bf 0))), (a1, .inl (T 0, 12, .inl (bf 1))), (a2, .inl (T 0, 12, .inl (bf 2)))] := hD
            have hinv : (1 ≤ ii.toInt ∧ ii.toInt ≤ (bn 2).toInt ∧ nn.toInt = n0.toInt + ii.toInt - 1 ∧ 0 ≤ al.toInt ∧ al.toInt < nn.toInt) ∧ okC v1 v3 v4 v5 ∧ (∀ A : clsA, rlC n0 f1 f2 f3 f4 A → al = (sumF (bf 2) A (ii.toNatClampNeg - 1)).1 ∧ rlC nn v1 v2 v3 v4 (sumF (bf 2) A (ii.toNatClampNeg - 1)).2) ∧ ∀ j : Nat, (j : Int) < nn.toInt → mesP v1 v2 v3 v4 v5 v6 v7 j := hinv
            obtain ⟨hii, hok, hsA, hme⟩ := hinv
            refine lv_iload hx hb dX12_sum_92 (lv_at hl 0 rfl) ?_
            refine lv_aload_n hx hb dX12_sum_94 rfl (lv_at hl 2 rfl) ?_
            refine va_get (D := D) (ci := 0) (v := .int (bn 2)) (C := RX1) (T := TX1) (N := 2) hx hb hts in_X12_sum_X1 hown hE.1 hP 12 rfl rfl 0 (by decide +kernel) (hts (.fieldLink RX12 307 "ClauseBook$Bag" "size" "I") (List.mem_of_getElem? (i := 2) rfl)) (fun _ h9 => h9) rfl dX12_sum_95 ?_
            refine lv_icmp_ge (tgt := 130) hx hb dX12_sum_98 (by decide +kernel) (fun c_33 => ?_) (fun c_33 => ?_)
            · rw [fa_le] at c_33
              refine lv_iload_n hx hb dX12_sum_130 rfl (lv_at hl 1 rfl) ?_
              exact W.iret hx hb hr (fun t ht hW => ⟨⟨_, (fun k => [fun _ => nn, v1, v2, v3, v4, v5, v6, v7].getD k f1), rfl, ⟨⟨(show 0 ≤ (nn).toInt ∧ (nn).toInt ≤ 24 from by omega), (show okC v1 v3 v4 v5 from by first | exact hok | assumption)⟩, (Or.inr (Or.inr (Or.inr ⟨(fun h9 => h9 ⟨by decide, by decide⟩), ⟨(show 1 ≤ (bn 2).toInt from by omega), hall2⟩, (show n0.toInt + (bn 2).toInt - 1 ≤ 24 from by omega), (show ii = (bn 2) from Int32.toInt_inj.1 (by omega)) ▸ hsA⟩))), hme⟩, by rw [ht]; exact hP.sub [0, 1, 2, 3, 4, 5, 6, 7, 8, 9, 10, 11, 12, 13, 14, 15] rfl, hD.sub [0, 1, 2, 3, 4, 5, 6, 7, 8, 9, 10, 11, 12, 13, 14, 15] (by decide +kernel) rfl⟩, hS.F ht⟩) hS.2.2 dX12_sum_131
            · rw [fa_le] at c_33
              refine lv_aload_n hx hb dX12_sum_101 rfl (lv_at hl 3 rfl) ?_
              refine va_get (D := D) (ci := 9) (v := .ref h2) (C := RX12) (T := TX12) (N := 11) hx hb hts in_X12_sum_X12 hown hE.1 hP 0 rfl rfl 4 (by decide +kernel) (hts (.fieldLink RX12 32 "ClauseBook" "clauses" "LClauseBook$Clauses;") (List.mem_of_getElem? (i := 3) rfl)) (fun _ h9 => h9) e0_4 dX12_sum_102 ?_
              refine va_gets (v := .ref (ad 5)) hx hb (hV.1.1.1 5 (by decide +kernel)).1 hS hown (hts (.fieldLink RX12 311 "ClauseBook$Kind" "BOTH" "LClauseBook$Kind;") (List.mem_of_getElem? (i := 6) rfl)) (fun _ h9 => h9) dX12_sum_105 ?_
              refine va_getE (i := 5) hx hb hV.1.1 (by decide +kernel) hS hown (q := kdQ "number" [0, 1, 2, 3, 4, 5, 6, 7, 8, 9, 10, 11, 12]) (List.mem_of_getElem? (i := 3) rfl) (hts (.fieldLink RX12 314 "ClauseBook$Kind" "number" "I") (List.mem_of_getElem? (i := 7) rfl)) (fun _ h9 => h9) dX12_sum_108 ?_
              refine W.eq (g2 := F0 m 111 ls [.int 5, .ref h2]) rfl ?_
              refine lv_iconst (v := 0) hx hb dX12_sum_111 (by decide +kernel) ?_
              refine lv_iload_n hx hb dX12_sum_112 rfl (lv_at hl 1 rfl) ?_
              refine lv_aload_n hx hb dX12_sum_113 rfl (lv_at hl 2 rfl) ?_
              refine va_get (D := D) (ci := 0) (v := .ref a2) (C := RX1) (T := TX1) (N := 2) hx hb hts in_X12_sum_X1 hown hE.1 hP 12 rfl rfl 1 (by decide +kernel) (hts (.fieldLink RX12 308 "ClauseBook$Bag" "numbers" "[I") (List.mem_of_getElem? (i := 4) rfl)) (fun _ h9 => h9) rfl dX12_sum_114 ?_
              refine lv_iload hx hb dX12_sum_117 (lv_at hl 0 rfl) ?_
              refine va_iald hx hb hE.1 hP 15 0 rfl rfl (by rw [vp_in_iff]; first | omega | (subst_vars; rw [dec1 (by omega)]; omega) | (subst_vars; rw [inc1 (n := 1000) (by omega) (by decide +kernel)]; omega)) dX12_sum_119 ?_
              refine lv_topi (fun z_34 ez_34 => ?_)
              have hz8 : 0 ≤ z_34.toInt ∧ z_34.toInt < n0.toInt := by rw [ez_34]; exact sum_at hall (by omega)
              have hFc := va_free (wc := [(h2, .inr (1, [.int nn, .ref c1, .ref c2, .ref c3, .ref c4, .ref c5, .ref c6, .ref c7])), (c1, .inl (T 0, 24, .inl v1)), (c2, .inl (T 0, 24, .inl v2)), (c3, .inl (T 0, 24, .inl v3)), (c4, .inl (T 0, 24, .inl v4)), (c5, .inl (T 0, 24, .inl v5)), (c6, .inl (T 0, 24, .inl v6)), (c7, .inl (T 0, 24, .inl v7))]) hD hS hA [2, 3, 4, 5, 6, 7, 8, 9] rfl
              refine va_calli (va_runV (As := [.int 5, .int 0, .int al, .int z_34]) (rest := []) ⟨hx, hb, hml, hown, hts⟩ (c_X2_append l D T ad sa av ta _ h2 nn c1 c2 c3 c4 c5 c6 c7 v1 v2 v3 v4 v5 v6 v7 5 0 al z_34 (by omega) hok (by decide +kernel) (fun _ => by omega) (fun _ => by omega) hme) (cwV 4 hts gX12_sum_X2_append rfl rfl rfl hv_X2_append ⟨Nat.le_of_ble_eq_true rfl, Nat.le_of_ble_eq_true rfl⟩) (pWk_V (q := (RX2, TX2, 8)) (ci := 1) (q0 := 2) hP hE hD hV hS hFc rfl rfl [2, 3, 4, 5, 6, 7, 8, 9] (by decide +kernel) rfl rfl) rfl rfl hl.1 rfl (lv_room (Nat.le_of_ble_eq_true rfl)) dX12_sum_120 ⟨Nat.le_of_ble_eq_true rfl, Nat.le_of_ble_eq_true rfl⟩) hS (fun q _ h => hFc q h) hFc (fun r_35 u_36 t H1 locs ht hvm hr_35 hB hz1 hk1 hS => ?_)
              obtain ⟨haru_36, ⟨hszu_36, hok⟩, hapu_36, hme⟩ := hr_35
              have hapu_36 : ((nn.toInt < 24 → (u_36 1) = upd v1 (nn.toNatClampNeg) (5 : Int32) ∧ (u_36 2) = upd v2 (nn.toNatClampNeg) (0 : Int32) ∧ (u_36 3) = upd v3 (nn.toNatClampNeg) (if 1 ≤ (nmT ((5 : Int32).toNatClampNeg)).toInt then al else -1) ∧ (u_36 4) = upd v4 (nn.toNatClampNeg) (if (nmT ((5 : Int32).toNatClampNeg)).toInt = 2 then z_34 else -1)) ∧ (¬ nn.toInt < 24 → (u_36 1) = v1 ∧ (u_36 2) = v2 ∧ (u_36 3) = v3 ∧ (u_36 4) = v4)) := hapu_36
              have hme : (∀ j : Nat, (j : Int) < (u_36 0 0).toInt → mesP (u_36 1) (u_36 2) (u_36 3) (u_36 4) (u_36 5) (u_36 6) (u_36 7) j) := hme
              obtain ⟨hP1, hD1⟩ := hB
              rw [ht] at hP1
              obtain ⟨hP, hD⟩ := va_repl [(h0, .inr (9, fs0)), (h1, .inl (T 5, 3, .inr (.inr (.inr (.inr (va_up (va_up (va_up (fun _ => none) 0 (some t0)) 1 (some t1)) 2 (some t2))))))), (h2, .inr (1, [.int (u_36 0 0), .ref c1, .ref c2, .ref c3, .ref c4, .ref c5, .ref c6, .ref c7])), (c1, .inl (T 0, 24, .inl (u_36 1))), (c2, .inl (T 0, 24, .inl (u_36 2))), (c3, .inl (T 0, 24, .inl (u_36 3))), (c4, .inl (T 0, 24, .inl (u_36 4))), (c5, .inl (T 0, 24, .inl (u_36 5))), (c6, .inl (T 0, 24, .inl (u_36 6))), (c7, .inl (T 0, 24, .inl (u_36 7))), (t0, .inr (0, [.int (bn 0), .ref a0])), (t1, .inr (0, [.int (bn 1), .ref a1])), (t2, .inr (0, [.int (bn 2), .ref a2])), (a0, .inl (T 0, 12, .inl (bf 0))), (a1, .inl (T 0, 12, .inl (bf 1))), (a2, .inl (T 0, 12, .inl (bf 2)))] hP hD [2, 3, 4, 5, 6, 7, 8, 9] [2, 3, 4, 5, 6, 7, 8, 9] rfl (by decide +kernel) rfl rfl rfl hk1 hP1
              clear hP1 hD1 hFc
              generalize H1 = H at hP hS ⊢
              obtain ⟨hr9, hr8, hr7⟩ := haru_36.resolve_left (by intro h9; omega)
              have hr6 : r_35.toInt = nn.toInt := by rw [hr8]
              refine lv_istore_n (lv' := [(3, .int r_35), (4, .int ii), (2, .ref t2), (0, .ref h0), (1, .int 2)]) hx hb dX12_sum_123 rfl hl (by decide +kernel) rfl (fun ls hl => ?_)
              obtain ⟨z_37, ez_37⟩ : ∃ y : Int32, y = ii + 1 := ⟨_, rfl⟩
              refine lv_iinc (v := z_37) (lv' := [(4, .int z_37), (3, .int r_35), (2, .ref t2), (0, .ref h0), (1, .int 2)]) hx hb dX12_sum_124 hl (k := 1) rfl (by rw [ez_37]; rfl) (by decide +kernel) rfl (fun ls hl => ?_)
              have hi9 : z_37.toInt = ii.toInt + 1 := by rw [ez_37]; exact inc1 (n := 1000) (by omega) (by decide +kernel)
              refine lv_goto (tgt := 92) hx hb dX12_sum_127 (by decide +kernel) ?_
              exact ih (z_37, r_35, (u_36 0 0), (u_36 1), (u_36 2), (u_36 3), (u_36 4), (u_36 5), (u_36 6), (u_36 7)) ls _ _ ⟨lv_sub hl [0, 1, 2, 3, 4] rfl, hP.sub [0, 1, 2, 3, 4, 5, 6, 7, 8, 9, 10, 11, 12, 13, 14, 15] rfl, hD.sub [0, 1, 2, 3, 4, 5, 6, 7, 8, 9, 10, 11, 12, 13, 14, 15] (by decide +kernel) rfl, hS, ⟨(by (try dsimp only); omega), hok, (by (try dsimp only); exact sum_stepC (by omega) hi9 hsA ez_34 hr8 hr7 (hapu_36.1 (by omega))), hme⟩⟩ (by subst_vars; (try dsimp only); rw [inc1 (i := ii) (n := 1000) (by omega) (by decide +kernel)]; omega)
          · rw [fa_le] at c_31
            try rw [ti_24] at c_31
            have hs9 : (n0 + (bn 2)).toInt = n0.toInt + (bn 2).toInt := fb_addI (by omega) (by omega)
            have hs8 := dec1 (i := n0 + (bn 2)) (by omega)
            refine lv_bipush (v := (-4)) hx hb dX12_sum_79 (by decide +kernel) ?_
            exact W.iret hx hb hr (fun t ht hW => ⟨⟨_, (fun k => [fun _ => n0, f1, f2, f3, f4, f5, f6, f7].getD k f1), rfl, ⟨⟨(show 0 ≤ (n0).toInt ∧ (n0).toInt ≤ 24 from by omega), (show okC f1 f3 f4 f5 from by first | exact hok | assumption)⟩, (Or.inr (Or.inr (Or.inl ⟨(fun h9 => h9 ⟨by decide, by decide⟩), ⟨(show 1 ≤ (bn 2).toInt from by omega), hall2⟩, (show 24 < n0.toInt + (bn 2).toInt - 1 from by omega), (by decide +kernel), ⟨rfl, rfl, rfl, rfl, rfl⟩⟩))), hme⟩, by rw [ht]; exact hP.sub [0, 1, 2, 3, 4, 5, 6, 7, 8, 9, 10, 11, 12, 13, 14, 15] rfl, hD.sub [0, 1, 2, 3, 4, 5, 6, 7, 8, 9, 10, 11, 12, 13, 14, 15] (by decide +kernel) rfl⟩, hS.F ht⟩) hS.2.2 dX12_sum_81
        · rw [fa_le] at c_30
          refine lv_aload_n hx hb dX12_sum_36 rfl (lv_at hl 2 rfl) ?_
          refine va_get (D := D) (ci := 9) (v := .ref h2) (C := RX12) (T := TX12) (N := 11) hx hb hts in_X12_sum_X12 hown hE.1 hP 0 rfl rfl 4 (by decide +kernel) (hts (.fieldLink RX12 32 "ClauseBook" "clauses" "LClauseBook$Clauses;") (List.mem_of_getElem? (i := 3) rfl)) (fun _ h9 => h9) e0_4 dX12_sum_37 ?_
          refine lv_aload_n hx hb dX12_sum_40 rfl (lv_at hl 1 rfl) ?_
          refine va_get (D := D) (ci := 0) (v := .ref a2) (C := RX1) (T := TX1) (N := 2) hx hb hts in_X12_sum_X1 hown hE.1 hP 12 rfl rfl 1 (by decide +kernel) (hts (.fieldLink RX12 308 "ClauseBook$Bag" "numbers" "[I") (List.mem_of_getElem? (i := 4) rfl)) (fun _ h9 => h9) rfl dX12_sum_41 ?_
          refine lv_iload_n hx hb dX12_sum_44 rfl (lv_at hl 0 rfl) ?_
          refine va_iald hx hb hE.1 hP 15 0 rfl rfl (by rw [vp_in_iff]; first | omega | (subst_vars; rw [dec1 (by omega)]; omega) | (subst_vars; rw [inc1 (n := 1000) (by omega) (by decide +kernel)]; omega)) dX12_sum_45 ?_
          refine lv_topi (fun z_38 ez_38 => ?_)
          refine vp_callSi (W.runV (As := [.int z_38]) (rest := []) ⟨hx, hb, hml, hown, hts⟩ (c_X2_has l D T h2 [.int n0, .ref c1, .ref c2, .ref c3, .ref c4, .ref c5, .ref c6, .ref c7] z_38 n0 rfl (by omega)) (cwV 1 hts gX12_sum_X2_has rfl rfl rfl hv_X2_has ⟨Nat.le_of_ble_eq_true rfl, Nat.le_of_ble_eq_true rfl⟩) (pR_V (q := (RX2, TX2, 8)) (ci := 1) (q0 := 2) hP hE rfl rfl [2] rfl) rfl rfl hl.1 rfl (lv_room (Nat.le_of_ble_eq_true rfl)) dX12_sum_46 ⟨Nat.le_of_ble_eq_true rfl, Nat.le_of_ble_eq_true rfl⟩) (fun r_39 hr_39 => ?_)
          rcases bool_post hr_39 with ⟨c_40, rfl⟩ | ⟨c_40, rfl⟩
          · refine lv_if_ne (tgt := 54) hx hb dX12_sum_49 (by decide +kernel) (fun _ => ?_) (fun c9 => absurd c9 (by decide +kernel))
            obtain ⟨z_41, ez_41⟩ : ∃ y : Int32, y = ii + 1 := ⟨_, rfl⟩
            refine lv_iinc (v := z_41) (lv' := [(3, .int z_41), (2, .ref t2), (0, .ref h0), (1, .int 2)]) hx hb dX12_sum_54 hl (k := 0) rfl (by rw [ez_41]; rfl) (by decide +kernel) rfl (fun ls hl => ?_)
            refine lv_goto (tgt := 28) hx hb dX12_sum_57 (by decide +kernel) ?_
            exact ih z_41 ls ⟨lv_sub hl [0, 1, 2, 3] rfl, ⟨(by subst_vars; (try dsimp only); rw [inc1 (i := ii) (n := 1000) (by omega) (by decide +kernel)]; omega), sum_step hall (by subst_vars; (try dsimp only); exact inc1 (i := ii) (n := 1000) (by omega) (by decide +kernel)) (by omega) (by rw [← ez_38]; omega)⟩⟩ (by subst_vars; (try dsimp only); rw [inc1 (i := ii) (n := 1000) (by omega) (by decide +kernel)]; omega)
          · refine lv_if_ne (tgt := 54) hx hb dX12_sum_49 (by decide +kernel) (fun c9 => absurd c9 (by decide +kernel)) (fun _ => ?_)
            refine lv_iconst (v := (-1)) hx hb dX12_sum_52 (by decide +kernel) ?_
            exact W.iret hx hb hr (fun t ht hW => ⟨⟨_, (fun k => [fun _ => n0, f1, f2, f3, f4, f5, f6, f7].getD k f1), rfl, ⟨⟨(show 0 ≤ (n0).toInt ∧ (n0).toInt ≤ 24 from by omega), (show okC f1 f3 f4 f5 from by first | exact hok | assumption)⟩, (Or.inr (Or.inl ⟨(fun h9 => h9 ⟨by decide, by decide⟩), (fun h9 => by
                  have h8 : 0 ≤ (bf 2 (ii.toNatClampNeg)).toInt ∧ (bf 2 (ii.toNatClampNeg)).toInt < n0.toInt := h9.2 (ii.toNatClampNeg) (by show ((ii.toNatClampNeg : Nat) : Int) < (bn 2).toInt; have h7 := tn (x := ii) (by omega); omega)
                  rw [← ez_38] at h8
                  omega), (by decide +kernel), ⟨rfl, rfl, rfl, rfl, rfl⟩⟩)), hme⟩, by rw [ht]; exact hP.sub [0, 1, 2, 3, 4, 5, 6, 7, 8, 9, 10, 11, 12, 13, 14, 15] rfl, hD.sub [0, 1, 2, 3, 4, 5, 6, 7, 8, 9, 10, 11, 12, 13, 14, 15] (by decide +kernel) rfl⟩, hS.F ht⟩) hS.2.2 dX12_sum_53
      · rw [fa_eq] at c_29
        try rw [ti_0] at c_29
        refine lv_iconst (v := (-1)) hx hb dX12_sum_24 (by decide +kernel) ?_
        exact W.iret hx hb hr (fun t ht hW => ⟨⟨_, (fun k => [fun _ => n0, f1, f2, f3, f4, f5, f6, f7].getD k f1), rfl, ⟨⟨(show 0 ≤ (n0).toInt ∧ (n0).toInt ≤ 24 from by omega), (show okC f1 f3 f4 f5 from by first | exact hok | assumption)⟩, (Or.inr (Or.inl ⟨(fun h9 => h9 ⟨by decide, by decide⟩), (fun h9 => by have h8 : 1 ≤ (bn 2).toInt := h9.1; omega), (by decide +kernel), ⟨rfl, rfl, rfl, rfl, rfl⟩⟩)), hme⟩, by rw [ht]; exact hP.sub [0, 1, 2, 3, 4, 5, 6, 7, 8, 9, 10, 11, 12, 13, 14, 15] rfl, hD.sub [0, 1, 2, 3, 4, 5, 6, 7, 8, 9, 10, 11, 12, 13, 14, 15] (by decide +kernel) rfl⟩, hS.F ht⟩) hS.2.2 dX12_sum_25
  · refine lv_if_ne (tgt := 10) hx hb dX12_sum_4 (by decide +kernel) (fun c9 => absurd c9 (by decide +kernel)) (fun _ => ?_)
    refine lv_bipush (v := (-2)) hx hb dX12_sum_7 (by decide +kernel) ?_
    exact W.iret hx hb hr (fun t ht hW => ⟨⟨_, (fun k => [fun _ => n0, f1, f2, f3, f4, f5, f6, f7].getD k f1), rfl, ⟨⟨(show 0 ≤ (n0).toInt ∧ (n0).toInt ≤ 24 from by omega), (show okC f1 f3 f4 f5 from by first | exact hok | assumption)⟩, (Or.inl ⟨(by omega), (by decide +kernel), ⟨rfl, rfl, rfl, rfl, rfl⟩⟩), hme⟩, by rw [ht]; exact hP.sub [0, 1, 2, 3, 4, 5, 6, 7, 8, 9, 10, 11, 12, 13, 14, 15] rfl, hD.sub [0, 1, 2, 3, 4, 5, 6, 7, 8, 9, 10, 11, 12, 13, 14, 15] (by decide +kernel) rfl⟩, hS.F ht⟩) hS.2.2 dX12_sum_9
