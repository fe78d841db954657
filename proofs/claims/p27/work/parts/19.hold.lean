theorem dX12_hold_0 : decode cX12_hold 0 = .ok (.iload_n 1, 1) := by decide +kernel
theorem dX12_hold_1 : decode cX12_hold 1 = .ok (.invokestatic 352, 3) := by decide +kernel
theorem dX12_hold_10 : decode cX12_hold 10 = .ok (.invokestatic 77, 3) := by decide +kernel
theorem dX12_hold_102 : decode cX12_hold 102 = .ok (.iload_n 2, 1) := by decide +kernel
theorem dX12_hold_103 : decode cX12_hold 103 = .ok (.iconst 2, 1) := by decide +kernel
theorem dX12_hold_104 : decode cX12_hold 104 = .ok (.if_icmp .ne 48, 3) := by decide +kernel
theorem dX12_hold_107 : decode cX12_hold 107 = .ok (.aload_n 0, 1) := by decide +kernel
theorem dX12_hold_108 : decode cX12_hold 108 = .ok (.getfield 43, 3) := by decide +kernel
theorem dX12_hold_111 : decode cX12_hold 111 = .ok (.sipush 675, 3) := by decide +kernel
theorem dX12_hold_114 : decode cX12_hold 114 = .ok (.lload_n 3, 1) := by decide +kernel
theorem dX12_hold_115 : decode cX12_hold 115 = .ok (.lload 5, 2) := by decide +kernel
theorem dX12_hold_117 : decode cX12_hold 117 = .ok (.invokevirtual 361, 3) := by decide +kernel
theorem dX12_hold_120 : decode cX12_hold 120 = .ok (.aload 7, 2) := by decide +kernel
theorem dX12_hold_122 : decode cX12_hold 122 = .ok (.aload_n 0, 1) := by decide +kernel
theorem dX12_hold_123 : decode cX12_hold 123 = .ok (.getfield 43, 3) := by decide +kernel
theorem dX12_hold_126 : decode cX12_hold 126 = .ok (.getfield 202, 3) := by decide +kernel
theorem dX12_hold_129 : decode cX12_hold 129 = .ok (.sipush 675, 3) := by decide +kernel
theorem dX12_hold_13 : decode cX12_hold 13 = .ok (.ifCond .ne 6, 3) := by decide +kernel
theorem dX12_hold_132 : decode cX12_hold 132 = .ok (.laload, 1) := by decide +kernel
theorem dX12_hold_133 : decode cX12_hold 133 = .ok (.putfield 365, 3) := by decide +kernel
theorem dX12_hold_136 : decode cX12_hold 136 = .ok (.aload 7, 2) := by decide +kernel
theorem dX12_hold_138 : decode cX12_hold 138 = .ok (.aload_n 0, 1) := by decide +kernel
theorem dX12_hold_139 : decode cX12_hold 139 = .ok (.getfield 43, 3) := by decide +kernel
theorem dX12_hold_142 : decode cX12_hold 142 = .ok (.getfield 206, 3) := by decide +kernel
theorem dX12_hold_145 : decode cX12_hold 145 = .ok (.sipush 675, 3) := by decide +kernel
theorem dX12_hold_148 : decode cX12_hold 148 = .ok (.laload, 1) := by decide +kernel
theorem dX12_hold_149 : decode cX12_hold 149 = .ok (.putfield 368, 3) := by decide +kernel
theorem dX12_hold_152 : decode cX12_hold 152 = .ok (.iload 8, 2) := by decide +kernel
theorem dX12_hold_154 : decode cX12_hold 154 = .ok (.ireturn, 1) := by decide +kernel
theorem dX12_hold_16 : decode cX12_hold 16 = .ok (.bipush (-2), 2) := by decide +kernel
theorem dX12_hold_18 : decode cX12_hold 18 = .ok (.ireturn, 1) := by decide +kernel
theorem dX12_hold_19 : decode cX12_hold 19 = .ok (.iload_n 2, 1) := by decide +kernel
theorem dX12_hold_20 : decode cX12_hold 20 = .ok (.iconst 1, 1) := by decide +kernel
theorem dX12_hold_21 : decode cX12_hold 21 = .ok (.if_icmp .ne 25, 3) := by decide +kernel
theorem dX12_hold_24 : decode cX12_hold 24 = .ok (.lload_n 3, 1) := by decide +kernel
theorem dX12_hold_25 : decode cX12_hold 25 = .ok (.lconst 0, 1) := by decide +kernel
theorem dX12_hold_26 : decode cX12_hold 26 = .ok (.lcmp, 1) := by decide +kernel
theorem dX12_hold_27 : decode cX12_hold 27 = .ok (.ifCond .lt 16, 3) := by decide +kernel
theorem dX12_hold_30 : decode cX12_hold 30 = .ok (.lload_n 3, 1) := by decide +kernel
theorem dX12_hold_31 : decode cX12_hold 31 = .ok (.aload_n 0, 1) := by decide +kernel
theorem dX12_hold_32 : decode cX12_hold 32 = .ok (.getfield 32, 3) := by decide +kernel
theorem dX12_hold_35 : decode cX12_hold 35 = .ok (.getfield 138, 3) := by decide +kernel
theorem dX12_hold_38 : decode cX12_hold 38 = .ok (.i2l, 1) := by decide +kernel
theorem dX12_hold_39 : decode cX12_hold 39 = .ok (.lcmp, 1) := by decide +kernel
theorem dX12_hold_4 : decode cX12_hold 4 = .ok (.ifCond .eq 12, 3) := by decide +kernel
theorem dX12_hold_40 : decode cX12_hold 40 = .ok (.ifCond .lt 6, 3) := by decide +kernel
theorem dX12_hold_43 : decode cX12_hold 43 = .ok (.bipush (-2), 2) := by decide +kernel
theorem dX12_hold_45 : decode cX12_hold 45 = .ok (.ireturn, 1) := by decide +kernel
theorem dX12_hold_46 : decode cX12_hold 46 = .ok (.iload_n 2, 1) := by decide +kernel
theorem dX12_hold_47 : decode cX12_hold 47 = .ok (.iconst 2, 1) := by decide +kernel
theorem dX12_hold_48 : decode cX12_hold 48 = .ok (.if_icmp .ne 21, 3) := by decide +kernel
theorem dX12_hold_51 : decode cX12_hold 51 = .ok (.lload 5, 2) := by decide +kernel
theorem dX12_hold_53 : decode cX12_hold 53 = .ok (.lconst 1, 1) := by decide +kernel
theorem dX12_hold_54 : decode cX12_hold 54 = .ok (.lcmp, 1) := by decide +kernel
theorem dX12_hold_55 : decode cX12_hold 55 = .ok (.ifCond .lt 11, 3) := by decide +kernel
theorem dX12_hold_58 : decode cX12_hold 58 = .ok (.lload_n 3, 1) := by decide +kernel
theorem dX12_hold_59 : decode cX12_hold 59 = .ok (.ldc2_w 357, 3) := by decide +kernel
theorem dX12_hold_62 : decode cX12_hold 62 = .ok (.lcmp, 1) := by decide +kernel
theorem dX12_hold_63 : decode cX12_hold 63 = .ok (.ifCond .ne 6, 3) := by decide +kernel
theorem dX12_hold_66 : decode cX12_hold 66 = .ok (.bipush (-2), 2) := by decide +kernel
theorem dX12_hold_68 : decode cX12_hold 68 = .ok (.ireturn, 1) := by decide +kernel
theorem dX12_hold_69 : decode cX12_hold 69 = .ok (.aload_n 0, 1) := by decide +kernel
theorem dX12_hold_7 : decode cX12_hold 7 = .ok (.iload_n 2, 1) := by decide +kernel
theorem dX12_hold_70 : decode cX12_hold 70 = .ok (.getfield 71, 3) := by decide +kernel
theorem dX12_hold_73 : decode cX12_hold 73 = .ok (.iload_n 1, 1) := by decide +kernel
theorem dX12_hold_74 : decode cX12_hold 74 = .ok (.aaload, 1) := by decide +kernel
theorem dX12_hold_75 : decode cX12_hold 75 = .ok (.astore 7, 2) := by decide +kernel
theorem dX12_hold_77 : decode cX12_hold 77 = .ok (.aload 7, 2) := by decide +kernel
theorem dX12_hold_79 : decode cX12_hold 79 = .ok (.getfield 359, 3) := by decide +kernel
theorem dX12_hold_8 : decode cX12_hold 8 = .ok (.iconst 0, 1) := by decide +kernel
theorem dX12_hold_82 : decode cX12_hold 82 = .ok (.istore 8, 2) := by decide +kernel
theorem dX12_hold_84 : decode cX12_hold 84 = .ok (.aload 7, 2) := by decide +kernel
theorem dX12_hold_86 : decode cX12_hold 86 = .ok (.iload_n 2, 1) := by decide +kernel
theorem dX12_hold_87 : decode cX12_hold 87 = .ok (.putfield 359, 3) := by decide +kernel
theorem dX12_hold_9 : decode cX12_hold 9 = .ok (.iconst 2, 1) := by decide +kernel
theorem dX12_hold_90 : decode cX12_hold 90 = .ok (.iload_n 2, 1) := by decide +kernel
theorem dX12_hold_91 : decode cX12_hold 91 = .ok (.iconst 1, 1) := by decide +kernel
theorem dX12_hold_92 : decode cX12_hold 92 = .ok (.if_icmp .ne 10, 3) := by decide +kernel
theorem dX12_hold_95 : decode cX12_hold 95 = .ok (.aload 7, 2) := by decide +kernel
theorem dX12_hold_97 : decode cX12_hold 97 = .ok (.lload_n 3, 1) := by decide +kernel
theorem dX12_hold_98 : decode cX12_hold 98 = .ok (.l2i, 1) := by decide +kernel
theorem dX12_hold_99 : decode cX12_hold 99 = .ok (.putfield 360, 3) := by decide +kernel
set_option maxRecDepth 20000 in
theorem ggX12_hold_X11_reduce : GoodIn wsX12_hold wsX11_reduce := goodIn_r _ [23, 24, 25, 26, 27, 28, 29, 53, 54, 55, 56, 57, 58] rfl (by decide +kernel)
set_option maxRecDepth 20000 in
theorem ggX12_hold_X12_isHand : GoodIn wsX12_hold wsX12_isHand := goodIn_r _ [15, 16, 17, 14, 18] rfl (by decide +kernel)
set_option maxRecDepth 20000 in
theorem ggX12_hold_X12_within : GoodIn wsX12_hold wsX12_within := goodIn_r _ [18] rfl (by decide +kernel)
set_option maxRecDepth 20000 in
theorem gX12_hold_X11_reduce : GoodIn wsX12_hold (wsV RX12 361 RX11 yX11_reduce wsX11_reduce) := goodIn_app (goodIn_r _ [19, 20, 21, 22] rfl (by decide +kernel)) ggX12_hold_X11_reduce
set_option maxRecDepth 20000 in
theorem gX12_hold_X12_isHand : GoodIn wsX12_hold (va_wsS RX12 352 yX12_isHand wsX12_isHand) := goodIn_app (goodIn_of _ (by decide +kernel)) ggX12_hold_X12_isHand
set_option maxRecDepth 20000 in
theorem gX12_hold_X12_within : GoodIn wsX12_hold (va_wsS RX12 77 yX12_within wsX12_within) := goodIn_app (goodIn_of _ (by decide +kernel)) ggX12_hold_X12_within
theorem hv_X11_reduce : yX11_reduce.cls = RX11 ∧ yX11_reduce.cls ≠ "java/lang/invoke/MethodHandle" ∧ yX11_reduce.cls ≠ "java/lang/invoke/VarHandle" ∧ (parseMethodDescriptor yX11_reduce.desc).map (fun d => d.parameters.length) = some 3 := by decide +kernel
set_option maxRecDepth 20000 in
theorem in_X12_hold_X11 : ∀ w ∈ wsX110, w ∈ wsX12_hold := sub_r [53, 54, 55, 56, 57, 58] rfl
set_option maxRecDepth 20000 in
theorem in_X12_hold_X12 : ∀ w ∈ wsX120, w ∈ wsX12_hold := sub_r [30, 31, 32, 33, 34, 35, 36, 37, 38, 39, 40] rfl
set_option maxRecDepth 20000 in
theorem in_X12_hold_X2 : ∀ w ∈ wsX20, w ∈ wsX12_hold := sub_r [41, 42, 43, 44, 45, 46, 47, 48] rfl
set_option maxRecDepth 20000 in
theorem in_X12_hold_X4 : ∀ w ∈ wsX40, w ∈ wsX12_hold := sub_r [49, 50, 51, 52] rfl
set_option maxHeartbeats 4000000 in
set_option maxRecDepth 100000 in
theorem c_X12_hold (l : Launch) (D : va_G) (T : Nat → ClassId) (sz : Nat) (h0 : Nat) (h1 : Nat) (h2 : Nat) (h3 : Nat) (p0 : Nat) (p1 : Nat) (fs0 : List Value) (fs1 : List Value) (n9 : Int32) (v0 : Value) (v1 : Value) (v4 : Value) (n : Int32) (f0 : Nat → Int64) (f1 : Nat → Int64) (t0 : Nat) (t1 : Nat) (t2 : Nat) (t3 : Nat) (jz : Nat → Int32) (jn : Nat → Int32) (ja : Nat → Int64) (jb : Nat → Int64) (x1 : Int32) (x2 : Int32) (x3 : Int64) (x4 : Int64) (e0_4 : fs0[4]? = some (.ref h1)) (e0_6 : fs0[6]? = some (.ref h2)) (e0_10 : fs0[10]? = some (.ref h3)) (e1_0 : fs1[0]? = some (.int n9)) : Met l yX12_hold wsX12_hold ({ frames := 2, cells := 0, slots := 0, locals := 72 }) (pW [.ref h0, .int x1, .int x2, .long x3, .long x4] D T [(h0, .inr (9, fs0)), (h1, .inr (1, fs1)), (h2, .inr (8, [v0, v1, .ref p0, .ref p1, v4, .int n])), (p0, .inl (T 1, 676, .inr (.inl f0))), (p1, .inl (T 1, 676, .inr (.inl f1))), (h3, .inl (T 7, 4, .inr (.inr (.inr (.inr (va_up (va_up (va_up (va_up (fun _ => none) 0 (some t0)) 1 (some t1)) 2 (some t2)) 3 (some t3))))))), (t0, .inr (3, [.int (jz 0), .int (jn 0), .long (ja 0), .long (jb 0)])), (t1, .inr (3, [.int (jz 1), .int (jn 1), .long (ja 1), .long (jb 1)])), (t2, .inr (3, [.int (jz 2), .int (jn 2), .long (ja 2), .long (jb 2)])), (t3, .inr (3, [.int (jz 3), .int (jn 3), .long (ja 3), .long (jb 3)]))] sz) (va_Qi (fun (r : Int32) (u : (Nat → Int64) × (Nat → Int64) × (Nat → Int32) × (Nat → Int32) × (Nat → Int64) × (Nat → Int64)) => holdC n9 x1 x2 r x3 x4 jz jn u.2.2.1 u.2.2.2.1) (bW D (va_A [(h0, .inr (9, fs0)), (h1, .inr (1, fs1)), (h2, .inr (8, [v0, v1, .ref p0, .ref p1, v4, .int n])), (p0, .inl (T 1, 676, .inr (.inl f0))), (p1, .inl (T 1, 676, .inr (.inl f1))), (h3, .inl (T 7, 4, .inr (.inr (.inr (.inr (va_up (va_up (va_up (va_up (fun _ => none) 0 (some t0)) 1 (some t1)) 2 (some t2)) 3 (some t3))))))), (t0, .inr (3, [.int (jz 0), .int (jn 0), .long (ja 0), .long (jb 0)])), (t1, .inr (3, [.int (jz 1), .int (jn 1), .long (ja 1), .long (jb 1)])), (t2, .inr (3, [.int (jz 2), .int (jn 2), .long (ja 2), .long (jb 2)])), (t3, .inr (3, [.int (jz 3), .int (jn 3), .long (ja 3), .long (jb 3)]))] sz) (fun (u : (Nat → Int64) × (Nat → Int64) × (Nat → Int32) × (Nat → Int32) × (Nat → Int64) × (Nat → Int64)) => [(h0, .inr (9, fs0)), (h1, .inr (1, fs1)), (h2, .inr (8, [v0, v1, .ref p0, .ref p1, v4, .int n])), (p0, .inl (T 1, 676, .inr (.inl u.1))), (p1, .inl (T 1, 676, .inr (.inl u.2.1))), (h3, .inl (T 7, 4, .inr (.inr (.inr (.inr (va_up (va_up (va_up (va_up (fun _ => none) 0 (some t0)) 1 (some t1)) 2 (some t2)) 3 (some t3))))))), (t0, .inr (3, [.int (u.2.2.1 0), .int (u.2.2.2.1 0), .long (u.2.2.2.2.1 0), .long (u.2.2.2.2.2 0)])), (t1, .inr (3, [.int (u.2.2.1 1), .int (u.2.2.2.1 1), .long (u.2.2.2.2.1 1), .long (u.2.2.2.2.2 1)])), (t2, .inr (3, [.int (u.2.2.1 2), .int (u.2.2.2.1 2), .long (u.2.2.2.2.1 2), .long (u.2.2.2.2.2 2)])), (t3, .inr (3, [.int (u.2.2.1 3), .int (u.2.2.2.1 3), .long (u.2.2.2.2.1 3), .long (u.2.2.2.2.2 3)]))])) (va_A [(h0, .inr (9, fs0)), (h1, .inr (1, fs1)), (h2, .inr (8, [v0, v1, .ref p0, .ref p1, v4, .int n])), (p0, .inl (T 1, 676, .inr (.inl f0))), (p1, .inl (T 1, 676, .inr (.inl f1))), (h3, .inl (T 7, 4, .inr (.inr (.inr (.inr (va_up (va_up (va_up (va_up (fun _ => none) 0 (some t0)) 1 (some t1)) 2 (some t2)) 3 (some t3))))))), (t0, .inr (3, [.int (jz 0), .int (jn 0), .long (ja 0), .long (jb 0)])), (t1, .inr (3, [.int (jz 1), .int (jn 1), .long (ja 1), .long (jb 1)])), (t2, .inr (3, [.int (jz 2), .int (jn 2), .long (ja 2), .long (jb 2)])), (t3, .inr (3, [.int (jz 3), .int (jn 3), .long (ja 3), .long (jb 3)]))] sz)) 0 0 (va_A [(h0, .inr (9, fs0)), (h1, .inr (1, fs1)), (h2, .inr (8, [v0, v1, .ref p0, .ref p1, v4, .int n])), (p0, .inl (T 1, 676, .inr (.inl f0))), (p1, .inl (T 1, 676, .inr (.inl f1))), (h3, .inl (T 7, 4, .inr (.inr (.inr (.inr (va_up (va_up (va_up (va_up (fun _ => none) 0 (some t0)) 1 (some t1)) 2 (some t2)) 3 (some t3))))))), (t0, .inr (3, [.int (jz 0), .int (jn 0), .long (ja 0), .long (jb 0)])), (t1, .inr (3, [.int (jz 1), .int (jn 1), .long (ja 1), .long (jb 1)])), (t2, .inr (3, [.int (jz 2), .int (jn 2), .long (ja 2), .long (jb 2)])), (t3, .inr (3, [.int (jz 3), .int (jn 3), .long (ja 3), .long (jb 3)]))] sz) := by
  refine Met.ofW (cc := cX12_hold) (maxL := 9) (ret := (some .int)) (by decide +kernel) rfl ?_
  intro p e s m args below meth c s₁ B hml hv
  obtain ⟨rfl, hsz, hP, hE, hD0⟩ := hv
  have hx := B.exec
  have hb := B.bytes
  have hr := B.returns
  have hts := atoms_spec (ws := wsX12_hold) B.pre
  have hown : s.vm.findClass RX12 = some m.cls := findClass_of_methodNamed B.named
  have hlocks := B.notSynchronized
  subst hsz
  have hD := hD0.self (sz := s.heap.size)
  generalize hAe : va_A [(h0, .inr (9, fs0)), (h1, .inr (1, fs1)), (h2, .inr (8, [v0, v1, .ref p0, .ref p1, v4, .int n])), (p0, .inl (T 1, 676, .inr (.inl f0))), (p1, .inl (T 1, 676, .inr (.inl f1))), (h3, .inl (T 7, 4, .inr (.inr (.inr (.inr (va_up (va_up (va_up (va_up (fun _ => none) 0 (some t0)) 1 (some t1)) 2 (some t2)) 3 (some t3))))))), (t0, .inr (3, [.int (jz 0), .int (jn 0), .long (ja 0), .long (jb 0)])), (t1, .inr (3, [.int (jz 1), .int (jn 1), .long (ja 1), .long (jb 1)])), (t2, .inr (3, [.int (jz 2), .int (jn 2), .long (ja 2), .long (jb 2)])), (t3, .inr (3, [.int (jz 3), .int (jn 3), .long (ja 3), .long (jb 3)]))] s.heap.size = A at hD ⊢
  have hA : ∀ q : Nat, s.heap.size ≤ q → A q := fun q h => by rw [← hAe]; exact Or.inr h
  have hS : va_S A s.heap s.heap [] := va_S.rf
  have hP : va_P D vwCl [(h0, .inr (9, fs0)), (h1, .inr (1, fs1)), (h2, .inr (8, [v0, v1, .ref p0, .ref p1, v4, .int n])), (p0, .inl (T 1, 676, .inr (.inl f0))), (p1, .inl (T 1, 676, .inr (.inl f1))), (h3, .inl (T 7, 4, .inr (.inr (.inr (.inr (va_up (va_up (va_up (va_up (fun _ => none) 0 (some t0)) 1 (some t1)) 2 (some t2)) 3 (some t3))))))), (t0, .inr (3, [.int (jz 0), .int (jn 0), .long (ja 0), .long (jb 0)])), (t1, .inr (3, [.int (jz 1), .int (jn 1), .long (ja 1), .long (jb 1)])), (t2, .inr (3, [.int (jz 2), .int (jn 2), .long (ja 2), .long (jb 2)])), (t3, .inr (3, [.int (jz 3), .int (jn 3), .long (ja 3), .long (jb 3)]))] s.heap := hP
  have hl := lv_entry ([.ref h0, .int x1, .int x2, .long x3, .long x4]) (n := 9) (Nat.le_of_ble_eq_true rfl)
  rw [lg_entry_eq]
  generalize (lg_sl ([.ref h0, .int x1, .int x2, .long x3, .long x4]) ++ List.replicate (9 - (lg_sl ([.ref h0, .int x1, .int x2, .long x3, .long x4])).length) Slot.unset).toArray = ls at hl ⊢
  have hl : lv_has ls 9 [(0, .ref h0), (1, .int x1), (2, .int x2), (3, .long x3), (5, .long x4)] := hl
  clear hD0
  refine lv_iload_n hx hb dX12_hold_0 rfl (lv_at hl 1 rfl) ?_
  refine vp_callSi (W.runS (As := [.int x1]) (rest := []) ⟨hx, hb, hml, hown, hts⟩ (c_X12_isHand l D T x1) (va_cwS 1 hts gX12_hold_X12_isHand rfl rfl rfl hs_X12_isHand ⟨Nat.le_of_ble_eq_true rfl, Nat.le_of_ble_eq_true rfl⟩) (pR_S hP hE [] rfl) rfl rfl hl.1 rfl (lv_room (Nat.le_of_ble_eq_true rfl)) dX12_hold_1 ⟨Nat.le_of_ble_eq_true rfl, Nat.le_of_ble_eq_true rfl⟩) (fun r_1 hr_1 => ?_)
  rcases bool_post hr_1 with ⟨c_2, rfl⟩ | ⟨c_2, rfl⟩
  · refine lv_if_eq (tgt := 16) hx hb dX12_hold_4 (by decide +kernel) (fun c9 => absurd c9 (by decide +kernel)) (fun _ => ?_)
    refine lv_iload_n hx hb dX12_hold_7 rfl (lv_at hl 2 rfl) ?_
    refine lv_iconst (v := 0) hx hb dX12_hold_8 (by decide +kernel) ?_
    refine lv_iconst (v := 2) hx hb dX12_hold_9 (by decide +kernel) ?_
    refine vp_callSi (W.runS (As := [.int x2, .int 0, .int 2]) (rest := []) ⟨hx, hb, hml, hown, hts⟩ (c_X12_within l D T x2 0 2 0 2 (by decide +kernel) (by decide +kernel)) (va_cwS 3 hts gX12_hold_X12_within rfl rfl rfl hs_X12_within ⟨Nat.le_of_ble_eq_true rfl, Nat.le_of_ble_eq_true rfl⟩) (pR_S hP hE [] rfl) rfl rfl hl.1 rfl (lv_room (Nat.le_of_ble_eq_true rfl)) dX12_hold_10 ⟨Nat.le_of_ble_eq_true rfl, Nat.le_of_ble_eq_true rfl⟩) (fun r_3 hr_3 => ?_)
    rcases bool_post hr_3 with ⟨c_4, rfl⟩ | ⟨c_4, rfl⟩
    · refine lv_if_ne (tgt := 19) hx hb dX12_hold_13 (by decide +kernel) (fun _ => ?_) (fun c9 => absurd c9 (by decide +kernel))
      refine lv_iload_n hx hb dX12_hold_19 rfl (lv_at hl 2 rfl) ?_
      refine lv_iconst (v := 1) hx hb dX12_hold_20 (by decide +kernel) ?_
      refine lv_icmp_ne (tgt := 46) hx hb dX12_hold_21 (by decide +kernel) (fun c_5 => ?_) (fun c_5 => ?_)
      · rw [fa_eq] at c_5
        try rw [ti_1] at c_5
        refine lv_iload_n hx hb dX12_hold_46 rfl (lv_at hl 2 rfl) ?_
        refine lv_iconst (v := 2) hx hb dX12_hold_47 (by decide +kernel) ?_
        refine lv_icmp_ne (tgt := 69) hx hb dX12_hold_48 (by decide +kernel) (fun c_6 => ?_) (fun c_6 => ?_)
        · rw [fa_eq] at c_6
          try rw [ti_2] at c_6
          refine lv_aload_n hx hb dX12_hold_69 rfl (lv_at hl 0 rfl) ?_
          refine va_get (D := D) (ci := 9) (v := .ref h3) (C := RX12) (T := TX12) (N := 11) hx hb hts in_X12_hold_X12 hown hE.1 hP 0 rfl rfl 10 (by decide +kernel) (hts (.fieldLink RX12 71 "ClauseBook" "hands" "[LClauseBook$Hand;") (List.mem_of_getElem? (i := 4) rfl)) (fun _ h9 => h9) e0_10 dX12_hold_70 ?_
          refine lv_iload_n hx hb dX12_hold_73 rfl (lv_at hl 1 rfl) ?_
          rcases in4 (x := x1) (by omega) with rfl | rfl | rfl | rfl
          · refine va_aldq hx hb hE.1 hP 5 7 rfl rfl (by unfold vp_in; decide) dX12_hold_74 ?_
            refine W.eq (g2 := F0 m 75 ls [.ref t0]) rfl ?_
            refine lv_astore (lv' := [(7, .ref t0), (0, .ref h0), (1, .int 0), (2, .int x2), (3, .long x3), (5, .long x4)]) hx hb dX12_hold_75 hl (by decide +kernel) rfl (fun ls hl => ?_)
            refine lv_aload hx hb dX12_hold_77 (lv_at hl 0 rfl) ?_
            refine va_get (D := D) (ci := 3) (v := .int (jz 0)) (C := RX4) (T := TX4) (N := 4) hx hb hts in_X12_hold_X4 hown hE.1 hP 6 rfl rfl 0 (by decide +kernel) (hts (.fieldLink RX12 359 "ClauseBook$Hand" "sort" "I") (List.mem_of_getElem? (i := 5) rfl)) (fun _ h9 => h9) rfl dX12_hold_79 ?_
            refine lv_istore (lv' := [(8, .int (jz 0)), (7, .ref t0), (0, .ref h0), (1, .int 0), (2, .int x2), (3, .long x3), (5, .long x4)]) hx hb dX12_hold_82 hl (by decide +kernel) rfl (fun ls hl => ?_)
            refine lv_aload hx hb dX12_hold_84 (lv_at hl 1 rfl) ?_
            refine lv_iload_n hx hb dX12_hold_86 rfl (lv_at hl 4 rfl) ?_
            refine va_put (D := D) (ci := 3) (v := .int x2) (ty := .int) (C := RX4) (T := TX4) (N := 4) hx hb hts in_X12_hold_X4 tyX4 tyX4_ok nmX4 hown hE.1 hP hD hS 6 rfl rfl 0 (by decide +kernel) (hts (.fieldLink RX12 359 "ClauseBook$Hand" "sort" "I") (List.mem_of_getElem? (i := 5) rfl)) (fun _ h9 => h9) rfl (by decide +kernel) rfl rfl (Nat.le_of_ble_eq_true rfl) dX12_hold_87 (fun H locs hP hD hS => ?_)
            obtain ⟨hP, hD⟩ := wPD [(h0, .inr (9, fs0)), (h1, .inr (1, fs1)), (h2, .inr (8, [v0, v1, .ref p0, .ref p1, v4, .int n])), (p0, .inl (T 1, 676, .inr (.inl f0))), (p1, .inl (T 1, 676, .inr (.inl f1))), (h3, .inl (T 7, 4, .inr (.inr (.inr (.inr (va_up (va_up (va_up (va_up (fun _ => none) 0 (some t0)) 1 (some t1)) 2 (some t2)) 3 (some t3))))))), (t0, .inr (3, [.int x2, .int (jn 0), .long (ja 0), .long (jb 0)])), (t1, .inr (3, [.int (jz 1), .int (jn 1), .long (ja 1), .long (jb 1)])), (t2, .inr (3, [.int (jz 2), .int (jn 2), .long (ja 2), .long (jb 2)])), (t3, .inr (3, [.int (jz 3), .int (jn 3), .long (ja 3), .long (jb 3)]))] hP hD rfl
            refine lv_iload_n hx hb dX12_hold_90 rfl (lv_at hl 4 rfl) ?_
            refine lv_iconst (v := 1) hx hb dX12_hold_91 (by decide +kernel) ?_
            refine lv_icmp_ne (tgt := 102) hx hb dX12_hold_92 (by decide +kernel) (fun c_7 => ?_) (fun c_7 => ?_)
            · rw [fa_eq] at c_7
              try rw [ti_1] at c_7
              refine lv_iload_n hx hb dX12_hold_102 rfl (lv_at hl 4 rfl) ?_
              refine lv_iconst (v := 2) hx hb dX12_hold_103 (by decide +kernel) ?_
              refine lv_icmp_ne (tgt := 152) hx hb dX12_hold_104 (by decide +kernel) (fun c_8 => ?_) (fun c_8 => ?_)
              · rw [fa_eq] at c_8
                try rw [ti_2] at c_8
                refine lv_iload hx hb dX12_hold_152 (lv_at hl 0 rfl) ?_
                exact W.iret hx hb hr (fun t ht hW => ⟨⟨_, (f0, f1, (fun k => [x2, (jz 1), (jz 2), (jz 3)].getD k 0), (fun k => [(jn 0), (jn 1), (jn 2), (jn 3)].getD k 0), (fun k => [(ja 0), (ja 1), (ja 2), (ja 3)].getD k 0), (fun k => [(jb 0), (jb 1), (jb 2), (jb 3)].getD k 0)), rfl, (Or.inr ⟨⟨⟨by decide, by decide⟩, by omega, (fun h9 => by omega), (fun h9 => by omega)⟩, rfl, all4' ⟨(fun _ => ⟨rfl, (fun h9 => by first | rfl | (exfalso; omega))⟩), (fun h9 => absurd (by decide +kernel) h9)⟩ ⟨(fun h9 => absurd h9 (by decide +kernel)), (fun _ => ⟨rfl, rfl⟩)⟩ ⟨(fun h9 => absurd h9 (by decide +kernel)), (fun _ => ⟨rfl, rfl⟩)⟩ ⟨(fun h9 => absurd h9 (by decide +kernel)), (fun _ => ⟨rfl, rfl⟩)⟩⟩), by rw [ht]; exact hP.sub [0, 1, 2, 3, 4, 5, 6, 7, 8, 9] rfl, hD.sub [0, 1, 2, 3, 4, 5, 6, 7, 8, 9] (by decide +kernel) rfl⟩, hS.F ht⟩) hS.2.2 dX12_hold_154
              · rw [fa_eq] at c_8
                try rw [ti_2] at c_8
                refine lv_aload_n hx hb dX12_hold_107 rfl (lv_at hl 2 rfl) ?_
                refine va_get (D := D) (ci := 9) (v := .ref h2) (C := RX12) (T := TX12) (N := 11) hx hb hts in_X12_hold_X12 hown hE.1 hP 0 rfl rfl 6 (by decide +kernel) (hts (.fieldLink RX12 43 "ClauseBook" "worth" "LClauseBook$Worth;") (List.mem_of_getElem? (i := 7) rfl)) (fun _ h9 => h9) e0_6 dX12_hold_108 ?_
                refine lv_sipush (v := 675) hx hb dX12_hold_111 (by decide +kernel) ?_
                refine lv_lload_n hx hb dX12_hold_114 rfl (lv_at hl 5 rfl) ?_
                refine lv_lload hx hb dX12_hold_115 (lv_at hl 6 rfl) ?_
                have hFc := va_free (wc := [(h2, .inr (8, [v0, v1, .ref p0, .ref p1, v4, .int n])), (p0, .inl (T 1, 676, .inr (.inl f0))), (p1, .inl (T 1, 676, .inr (.inl f1)))]) hD hS hA [2, 3, 4] rfl
                refine va_callv (va_runV (As := [.int 675, .long x3, .long x4]) (rest := []) ⟨hx, hb, hml, hown, hts⟩ (c_X11_reduce l D T _ h2 p0 p1 (v0) (v1) (v4) n f0 f1 675 x3 x4 (by first | decide | omega)) (cwV 3 hts gX12_hold_X11_reduce rfl rfl rfl hv_X11_reduce ⟨Nat.le_of_ble_eq_true rfl, Nat.le_of_ble_eq_true rfl⟩) (pW_V (q := (RX11, TX11, 6)) (ci := 8) (q0 := 2) hP hE hD rfl rfl [2, 3, 4] (by decide +kernel) rfl rfl) rfl rfl hl.1 rfl (lv_room (Nat.le_of_ble_eq_true rfl)) dX12_hold_117 ⟨Nat.le_of_ble_eq_true rfl, Nat.le_of_ble_eq_true rfl⟩) hS (fun q _ h => hFc q h) hFc (fun u_10 t H1 locs ht hvm hr_9 hB hz1 hk1 hS => ?_)
                obtain ⟨f_11, f_12⟩ := u_10
                obtain ⟨hP1, hD1⟩ := hB
                rw [ht] at hP1
                obtain ⟨hP, hD⟩ := va_repl [(h0, .inr (9, fs0)), (h1, .inr (1, fs1)), (h2, .inr (8, [v0, v1, .ref p0, .ref p1, v4, .int n])), (p0, .inl (T 1, 676, .inr (.inl f_11))), (p1, .inl (T 1, 676, .inr (.inl f_12))), (h3, .inl (T 7, 4, .inr (.inr (.inr (.inr (va_up (va_up (va_up (va_up (fun _ => none) 0 (some t0)) 1 (some t1)) 2 (some t2)) 3 (some t3))))))), (t0, .inr (3, [.int x2, .int (jn 0), .long (ja 0), .long (jb 0)])), (t1, .inr (3, [.int (jz 1), .int (jn 1), .long (ja 1), .long (jb 1)])), (t2, .inr (3, [.int (jz 2), .int (jn 2), .long (ja 2), .long (jb 2)])), (t3, .inr (3, [.int (jz 3), .int (jn 3), .long (ja 3), .long (jb 3)]))] hP hD [2, 3, 4] [2, 3, 4] rfl (by decide +kernel) rfl rfl rfl hk1 hP1
                clear hP1 hD1 hFc
                generalize H1 = H at hP hS ⊢
                refine lv_aload hx hb dX12_hold_120 (lv_at hl 1 rfl) ?_
                refine lv_aload_n hx hb dX12_hold_122 rfl (lv_at hl 2 rfl) ?_
                refine va_get (D := D) (ci := 9) (v := .ref h2) (C := RX12) (T := TX12) (N := 11) hx hb hts in_X12_hold_X12 hown hE.1 hP 0 rfl rfl 6 (by decide +kernel) (hts (.fieldLink RX12 43 "ClauseBook" "worth" "LClauseBook$Worth;") (List.mem_of_getElem? (i := 7) rfl)) (fun _ h9 => h9) e0_6 dX12_hold_123 ?_
                refine va_get (D := D) (ci := 8) (v := .ref p0) (C := RX11) (T := TX11) (N := 6) hx hb hts in_X12_hold_X11 hown hE.1 hP 2 rfl rfl 2 (by decide +kernel) (hts (.fieldLink RX12 202 "ClauseBook$Worth" "above" "[J") (List.mem_of_getElem? (i := 8) rfl)) (fun _ h9 => h9) rfl dX12_hold_126 ?_
                refine lv_sipush (v := 675) hx hb dX12_hold_129 (by decide +kernel) ?_
                refine va_lald hx hb hE.1 hP 3 1 rfl rfl (by unfold vp_in; decide) dX12_hold_132 ?_
                refine lv_topl (fun z_13 ez_13 => ?_)
                refine va_put (D := D) (ci := 3) (v := .long z_13) (ty := .long) (C := RX4) (T := TX4) (N := 4) hx hb hts in_X12_hold_X4 tyX4 tyX4_ok nmX4 hown hE.1 hP hD hS 6 rfl rfl 2 (by decide +kernel) (hts (.fieldLink RX12 365 "ClauseBook$Hand" "above" "J") (List.mem_of_getElem? (i := 9) rfl)) (fun _ h9 => h9) rfl (by decide +kernel) rfl rfl (Nat.le_of_ble_eq_true rfl) dX12_hold_133 (fun H locs hP hD hS => ?_)
                obtain ⟨hP, hD⟩ := wPD [(h0, .inr (9, fs0)), (h1, .inr (1, fs1)), (h2, .inr (8, [v0, v1, .ref p0, .ref p1, v4, .int n])), (p0, .inl (T 1, 676, .inr (.inl f_11))), (p1, .inl (T 1, 676, .inr (.inl f_12))), (h3, .inl (T 7, 4, .inr (.inr (.inr (.inr (va_up (va_up (va_up (va_up (fun _ => none) 0 (some t0)) 1 (some t1)) 2 (some t2)) 3 (some t3))))))), (t0, .inr (3, [.int x2, .int (jn 0), .long z_13, .long (jb 0)])), (t1, .inr (3, [.int (jz 1), .int (jn 1), .long (ja 1), .long (jb 1)])), (t2, .inr (3, [.int (jz 2), .int (jn 2), .long (ja 2), .long (jb 2)])), (t3, .inr (3, [.int (jz 3), .int (jn 3), .long (ja 3), .long (jb 3)]))] hP hD rfl
                refine lv_aload hx hb dX12_hold_136 (lv_at hl 1 rfl) ?_
                refine lv_aload_n hx hb dX12_hold_138 rfl (lv_at hl 2 rfl) ?_
                refine va_get (D := D) (ci := 9) (v := .ref h2) (C := RX12) (T := TX12) (N := 11) hx hb hts in_X12_hold_X12 hown hE.1 hP 0 rfl rfl 6 (by decide +kernel) (hts (.fieldLink RX12 43 "ClauseBook" "worth" "LClauseBook$Worth;") (List.mem_of_getElem? (i := 7) rfl)) (fun _ h9 => h9) e0_6 dX12_hold_139 ?_
                refine va_get (D := D) (ci := 8) (v := .ref p1) (C := RX11) (T := TX11) (N := 6) hx hb hts in_X12_hold_X11 hown hE.1 hP 2 rfl rfl 3 (by decide +kernel) (hts (.fieldLink RX12 206 "ClauseBook$Worth" "below" "[J") (List.mem_of_getElem? (i := 10) rfl)) (fun _ h9 => h9) rfl dX12_hold_142 ?_
                refine lv_sipush (v := 675) hx hb dX12_hold_145 (by decide +kernel) ?_
                refine va_lald hx hb hE.1 hP 4 1 rfl rfl (by unfold vp_in; decide) dX12_hold_148 ?_
                refine lv_topl (fun z_14 ez_14 => ?_)
                refine va_put (D := D) (ci := 3) (v := .long z_14) (ty := .long) (C := RX4) (T := TX4) (N := 4) hx hb hts in_X12_hold_X4 tyX4 tyX4_ok nmX4 hown hE.1 hP hD hS 6 rfl rfl 3 (by decide +kernel) (hts (.fieldLink RX12 368 "ClauseBook$Hand" "below" "J") (List.mem_of_getElem? (i := 11) rfl)) (fun _ h9 => h9) rfl (by decide +kernel) rfl rfl (Nat.le_of_ble_eq_true rfl) dX12_hold_149 (fun H locs hP hD hS => ?_)
                obtain ⟨hP, hD⟩ := wPD [(h0, .inr (9, fs0)), (h1, .inr (1, fs1)), (h2, .inr (8, [v0, v1, .ref p0, .ref p1, v4, .int n])), (p0, .inl (T 1, 676, .inr (.inl f_11))), (p1, .inl (T 1, 676, .inr (.inl f_12))), (h3, .inl (T 7, 4, .inr (.inr (.inr (.inr (va_up (va_up (va_up (va_up (fun _ => none) 0 (some t0)) 1 (some t1)) 2 (some t2)) 3 (some t3))))))), (t0, .inr (3, [.int x2, .int (jn 0), .long z_13, .long z_14])), (t1, .inr (3, [.int (jz 1), .int (jn 1), .long (ja 1), .long (jb 1)])), (t2, .inr (3, [.int (jz 2), .int (jn 2), .long (ja 2), .long (jb 2)])), (t3, .inr (3, [.int (jz 3), .int (jn 3), .long (ja 3), .long (jb 3)]))] hP hD rfl
                refine lv_iload hx hb dX12_hold_152 (lv_at hl 0 rfl) ?_
                exact W.iret hx hb hr (fun t ht hW => ⟨⟨_, (f_11, f_12, (fun k => [x2, (jz 1), (jz 2), (jz 3)].getD k 0), (fun k => [(jn 0), (jn 1), (jn 2), (jn 3)].getD k 0), (fun k => [z_13, (ja 1), (ja 2), (ja 3)].getD k 0), (fun k => [z_14, (jb 1), (jb 2), (jb 3)].getD k 0)), rfl, (Or.inr ⟨⟨⟨by decide, by decide⟩, by omega, (fun h9 => by omega), (fun h9 => by omega)⟩, rfl, all4' ⟨(fun _ => ⟨rfl, (fun h9 => by first | rfl | (exfalso; omega))⟩), (fun h9 => absurd (by decide +kernel) h9)⟩ ⟨(fun h9 => absurd h9 (by decide +kernel)), (fun _ => ⟨rfl, rfl⟩)⟩ ⟨(fun h9 => absurd h9 (by decide +kernel)), (fun _ => ⟨rfl, rfl⟩)⟩ ⟨(fun h9 => absurd h9 (by decide +kernel)), (fun _ => ⟨rfl, rfl⟩)⟩⟩), by rw [ht]; exact hP.sub [0, 1, 2, 3, 4, 5, 6, 7, 8, 9] rfl, hD.sub [0, 1, 2, 3, 4, 5, 6, 7, 8, 9] (by decide +kernel) rfl⟩, hS.F ht⟩) hS.2.2 dX12_hold_154
            · rw [fa_eq] at c_7
              try rw [ti_1] at c_7
              refine lv_aload hx hb dX12_hold_95 (lv_at hl 1 rfl) ?_
              refine lv_lload_n hx hb dX12_hold_97 rfl (lv_at hl 5 rfl) ?_
              refine lv_l2i hx hb dX12_hold_98 rfl ?_
              refine va_put (D := D) (ci := 3) (v := .int (x3.toInt32)) (ty := .int) (C := RX4) (T := TX4) (N := 4) hx hb hts in_X12_hold_X4 tyX4 tyX4_ok nmX4 hown hE.1 hP hD hS 6 rfl rfl 1 (by decide +kernel) (hts (.fieldLink RX12 360 "ClauseBook$Hand" "number" "I") (List.mem_of_getElem? (i := 6) rfl)) (fun _ h9 => h9) rfl (by decide +kernel) rfl rfl (Nat.le_of_ble_eq_true rfl) dX12_hold_99 (fun H locs hP hD hS => ?_)
              obtain ⟨hP, hD⟩ := wPD [(h0, .inr (9, fs0)), (h1, .inr (1, fs1)), (h2, .inr (8, [v0, v1, .ref p0, .ref p1, v4, .int n])), (p0, .inl (T 1, 676, .inr (.inl f0))), (p1, .inl (T 1, 676, .inr (.inl f1))), (h3, .inl (T 7, 4, .inr (.inr (.inr (.inr (va_up (va_up (va_up (va_up (fun _ => none) 0 (some t0)) 1 (some t1)) 2 (some t2)) 3 (some t3))))))), (t0, .inr (3, [.int x2, .int (x3.toInt32), .long (ja 0), .long (jb 0)])), (t1, .inr (3, [.int (jz 1), .int (jn 1), .long (ja 1), .long (jb 1)])), (t2, .inr (3, [.int (jz 2), .int (jn 2), .long (ja 2), .long (jb 2)])), (t3, .inr (3, [.int (jz 3), .int (jn 3), .long (ja 3), .long (jb 3)]))] hP hD rfl
              refine lv_iload_n hx hb dX12_hold_102 rfl (lv_at hl 4 rfl) ?_
              refine lv_iconst (v := 2) hx hb dX12_hold_103 (by decide +kernel) ?_
              refine lv_icmp_ne (tgt := 152) hx hb dX12_hold_104 (by decide +kernel) (fun c_15 => ?_) (fun c_15 => ?_)
              · rw [fa_eq] at c_15
                try rw [ti_2] at c_15
                refine lv_iload hx hb dX12_hold_152 (lv_at hl 0 rfl) ?_
                exact W.iret hx hb hr (fun t ht hW => ⟨⟨_, (f0, f1, (fun k => [x2, (jz 1), (jz 2), (jz 3)].getD k 0), (fun k => [(x3.toInt32), (jn 1), (jn 2), (jn 3)].getD k 0), (fun k => [(ja 0), (ja 1), (ja 2), (ja 3)].getD k 0), (fun k => [(jb 0), (jb 1), (jb 2), (jb 3)].getD k 0)), rfl, (Or.inr ⟨⟨⟨by decide, by decide⟩, by omega, (fun h9 => by omega), (fun h9 => by omega)⟩, rfl, all4' ⟨(fun _ => ⟨rfl, (fun h9 => by first | rfl | (exfalso; omega))⟩), (fun h9 => absurd (by decide +kernel) h9)⟩ ⟨(fun h9 => absurd h9 (by decide +kernel)), (fun _ => ⟨rfl, rfl⟩)⟩ ⟨(fun h9 => absurd h9 (by decide +kernel)), (fun _ => ⟨rfl, rfl⟩)⟩ ⟨(fun h9 => absurd h9 (by decide +kernel)), (fun _ => ⟨rfl, rfl⟩)⟩⟩), by rw [ht]; exact hP.sub [0, 1, 2, 3, 4, 5, 6, 7, 8, 9] rfl, hD.sub [0, 1, 2, 3, 4, 5, 6, 7, 8, 9] (by decide +kernel) rfl⟩, hS.F ht⟩) hS.2.2 dX12_hold_154
              · rw [fa_eq] at c_15
                try rw [ti_2] at c_15
                refine lv_aload_n hx hb dX12_hold_107 rfl (lv_at hl 2 rfl) ?_
                refine va_get (D := D) (ci := 9) (v := .ref h2) (C := RX12) (T := TX12) (N := 11) hx hb hts in_X12_hold_X12 hown hE.1 hP 0 rfl rfl 6 (by decide +kernel) (hts (.fieldLink RX12 43 "ClauseBook" "worth" "LClauseBook$Worth;") (List.mem_of_getElem? (i := 7) rfl)) (fun _ h9 => h9) e0_6 dX12_hold_108 ?_
                refine lv_sipush (v := 675) hx hb dX12_hold_111 (by decide +kernel) ?_
                refine lv_lload_n hx hb dX12_hold_114 rfl (lv_at hl 5 rfl) ?_
                refine lv_lload hx hb dX12_hold_115 (lv_at hl 6 rfl) ?_
                have hFc := va_free (wc := [(h2, .inr (8, [v0, v1, .ref p0, .ref p1, v4, .int n])), (p0, .inl (T 1, 676, .inr (.inl f0))), (p1, .inl (T 1, 676, .inr (.inl f1)))]) hD hS hA [2, 3, 4] rfl
                refine va_callv (va_runV (As := [.int 675, .long x3, .long x4]) (rest := []) ⟨hx, hb, hml, hown, hts⟩ (c_X11_reduce l D T _ h2 p0 p1 (v0) (v1) (v4) n f0 f1 675 x3 x4 (by first | decide | omega)) (cwV 3 hts gX12_hold_X11_reduce rfl rfl rfl hv_X11_reduce ⟨Nat.le_of_ble_eq_true rfl, Nat.le_of_ble_eq_true rfl⟩) (pW_V (q := (RX11, TX11, 6)) (ci := 8) (q0 := 2) hP hE hD rfl rfl [2, 3, 4] (by decide +kernel) rfl rfl) rfl rfl hl.1 rfl (lv_room (Nat.le_of_ble_eq_true rfl)) dX12_hold_117 ⟨Nat.le_of_ble_eq_true rfl, Nat.le_of_ble_eq_true rfl⟩) hS (fun q _ h => hFc q h) hFc (fun u_17 t H1 locs ht hvm hr_16 hB hz1 hk1 hS => ?_)
                obtain ⟨f_18, f_19⟩ := u_17
                obtain ⟨hP1, hD1⟩ := hB
                rw [ht] at hP1
                obtain ⟨hP, hD⟩ := va_repl [(h0, .inr (9, fs0)), (h1, .inr (1, fs1)), (h2, .inr (8, [v0, v1, .ref p0, .ref p1, v4, .int n])), (p0, .inl (T 1, 676, .inr (.inl f_18))), (p1, .inl (T 1, 676, .inr (.inl f_19))), (h3, .inl (T 7, 4, .inr (.inr (.inr (.inr (va_up (va_up (va_up (va_up (fun _ => none) 0 (some t0)) 1 (some t1)) 2 (some t2)) 3 (some t3))))))), (t0, .inr (3, [.int x2, .int (x3.toInt32), .long (ja 0), .long (jb 0)])), (t1, .inr (3, [.int (jz 1), .int (jn 1), .long (ja 1), .long (jb 1)])), (t2, .inr (3, [.int (jz 2), .int (jn 2), .long (ja 2), .long (jb 2)])), (t3, .inr (3, [.int (jz 3), .int (jn 3), .long (ja 3), .long (jb 3)]))] hP hD [2, 3, 4] [2, 3, 4] rfl (by decide +kernel) rfl rfl rfl hk1 hP1
                clear hP1 hD1 hFc
                generalize H1 = H at hP hS ⊢
                refine lv_aload hx hb dX12_hold_120 (lv_at hl 1 rfl) ?_
                refine lv_aload_n hx hb dX12_hold_122 rfl (lv_at hl 2 rfl) ?_
                refine va_get (D := D) (ci := 9) (v := .ref h2) (C := RX12) (T := TX12) (N := 11) hx hb hts in_X12_hold_X12 hown hE.1 hP 0 rfl rfl 6 (by decide +kernel) (hts (.fieldLink RX12 43 "ClauseBook" "worth" "LClauseBook$Worth;") (List.mem_of_getElem? (i := 7) rfl)) (fun _ h9 => h9) e0_6 dX12_hold_123 ?_
                refine va_get (D := D) (ci := 8) (v := .ref p0) (C := RX11) (T := TX11) (N := 6) hx hb hts in_X12_hold_X11 hown hE.1 hP 2 rfl rfl 2 (by decide +kernel) (hts (.fieldLink RX12 202 "ClauseBook$Worth" "above" "[J") (List.mem_of_getElem? (i := 8) rfl)) (fun _ h9 => h9) rfl dX12_hold_126 ?_
                refine lv_sipush (v := 675) hx hb dX12_hold_129 (by decide +kernel) ?_
                refine va_lald hx hb hE.1 hP 3 1 rfl rfl (by unfold vp_in; decide) dX12_hold_132 ?_
                refine lv_topl (fun z_20 ez_20 => ?_)
                refine va_put (D := D) (ci := 3) (v := .long z_20) (ty := .long) (C := RX4) (T := TX4) (N := 4) hx hb hts in_X12_hold_X4 tyX4 tyX4_ok nmX4 hown hE.1 hP hD hS 6 rfl rfl 2 (by decide +kernel) (hts (.fieldLink RX12 365 "ClauseBook$Hand" "above" "J") (List.mem_of_getElem? (i := 9) rfl)) (fun _ h9 => h9) rfl (by decide +kernel) rfl rfl (Nat.le_of_ble_eq_true rfl) dX12_hold_133 (fun H locs hP hD hS => ?_)
                obtain ⟨hP, hD⟩ := wPD [(h0, .inr (9, fs0)), (h1, .inr (1, fs1)), (h2, .inr (8, [v0, v1, .ref p0, .ref p1, v4, .int n])), (p0, .inl (T 1, 676, .inr (.inl f_18))), (p1, .inl (T 1, 676, .inr (.inl f_19))), (h3, .inl (T 7, 4, .inr (.inr (.inr (.inr (va_up (va_up (va_up (va_up (fun _ => none) 0 (some t0)) 1 (some t1)) 2 (some t2)) 3 (some t3))))))), (t0, .inr (3, [.int x2, .int (x3.toInt32), .long z_20, .long (jb 0)])), (t1, .inr (3, [.int (jz 1), .int (jn 1), .long (ja 1), .long (jb 1)])), (t2, .inr (3, [.int (jz 2), .int (jn 2), .long (ja 2), .long (jb 2)])), (t3, .inr (3, [.int (jz 3), .int (jn 3), .long (ja 3), .long (jb 3)]))] hP hD rfl
                refine lv_aload hx hb dX12_hold_136 (lv_at hl 1 rfl) ?_
                refine lv_aload_n hx hb dX12_hold_138 rfl (lv_at hl 2 rfl) ?_
                refine va_get (D := D) (ci := 9) (v := .ref h2) (C := RX12) (T := TX12) (N := 11) hx hb hts in_X12_hold_X12 hown hE.1 hP 0 rfl rfl 6 (by decide +kernel) (hts (.fieldLink RX12 43 "ClauseBook" "worth" "LClauseBook$Worth;") (List.mem_of_getElem? (i := 7) rfl)) (fun _ h9 => h9) e0_6 dX12_hold_139 ?_
                refine va_get (D := D) (ci := 8) (v := .ref p1) (C := RX11) (T := TX11) (N := 6) hx hb hts in_X12_hold_X11 hown hE.1 hP 2 rfl rfl 3 (by decide +kernel) (hts (.fieldLink RX12 206 "ClauseBook$Worth" "below" "[J") (List.mem_of_getElem? (i := 10) rfl)) (fun _ h9 => h9) rfl dX12_hold_142 ?_
                refine lv_sipush (v := 675) hx hb dX12_hold_145 (by decide +kernel) ?_
                refine va_lald hx hb hE.1 hP 4 1 rfl rfl (by unfold vp_in; decide) dX12_hold_148 ?_
                refine lv_topl (fun z_21 ez_21 => ?_)
                refine va_put (D := D) (ci := 3) (v := .long z_21) (ty := .long) (C := RX4) (T := TX4) (N := 4) hx hb hts in_X12_hold_X4 tyX4 tyX4_ok nmX4 hown hE.1 hP hD hS 6 rfl rfl 3 (by decide +kernel) (hts (.fieldLink RX12 368 "ClauseBook$Hand" "below" "J") (List.mem_of_getElem? (i := 11) rfl)) (fun _ h9 => h9) rfl (by decide +kernel) rfl rfl (Nat.le_of_ble_eq_true rfl) dX12_hold_149 (fun H locs hP hD hS => ?_)
                obtain ⟨hP, hD⟩ := wPD [(h0, .inr (9, fs0)), (h1, .inr (1, fs1)), (h2, .inr (8, [v0, v1, .ref p0, .ref p1, v4, .int n])), (p0, .inl (T 1, 676, .inr (.inl f_18))), (p1, .inl (T 1, 676, .inr (.inl f_19))), (h3, .inl (T 7, 4, .inr (.inr (.inr (.inr (va_up (va_up (va_up (va_up (fun _ => none) 0 (some t0)) 1 (some t1)) 2 (some t2)) 3 (some t3))))))), (t0, .inr (3, [.int x2, .int (x3.toInt32), .long z_20, .long z_21])), (t1, .inr (3, [.int (jz 1), .int (jn 1), .long (ja 1), .long (jb 1)])), (t2, .inr (3, [.int (jz 2), .int (jn 2), .long (ja 2), .long (jb 2)])), (t3, .inr (3, [.int (jz 3), .int (jn 3), .long (ja 3), .long (jb 3)]))] hP hD rfl
                refine lv_iload hx hb dX12_hold_152 (lv_at hl 0 rfl) ?_
                exact W.iret hx hb hr (fun t ht hW => ⟨⟨_, (f_18, f_19, (fun k => [x2, (jz 1), (jz 2), (jz 3)].getD k 0), (fun k => [(x3.toInt32), (jn 1), (jn 2), (jn 3)].getD k 0), (fun k => [z_20, (ja 1), (ja 2), (ja 3)].getD k 0), (fun k => [z_21, (jb 1), (jb 2), (jb 3)].getD k 0)), rfl, (Or.inr ⟨⟨⟨by decide, by decide⟩, by omega, (fun h9 => by omega), (fun h9 => by omega)⟩, rfl, all4' ⟨(fun _ => ⟨rfl, (fun h9 => by first | rfl | (exfalso; omega))⟩), (fun h9 => absurd (by decide +kernel) h9)⟩ ⟨(fun h9 => absurd h9 (by decide +kernel)), (fun _ => ⟨rfl, rfl⟩)⟩ ⟨(fun h9 => absurd h9 (by decide +kernel)), (fun _ => ⟨rfl, rfl⟩)⟩ ⟨(fun h9 => absurd h9 (by decide +kernel)), (fun _ => ⟨rfl, rfl⟩)⟩⟩), by rw [ht]; exact hP.sub [0, 1, 2, 3, 4, 5, 6, 7, 8, 9] rfl, hD.sub [0, 1, 2, 3, 4, 5, 6, 7, 8, 9] (by decide +kernel) rfl⟩, hS.F ht⟩) hS.2.2 dX12_hold_154
          · refine va_aldq hx hb hE.1 hP 5 7 rfl rfl (by unfold vp_in; decide) dX12_hold_74 ?_
            refine W.eq (g2 := F0 m 75 ls [.ref t1]) rfl ?_
            refine lv_astore (lv' := [(7, .ref t1), (0, .ref h0), (1, .int 1), (2, .int x2), (3, .long x3), (5, .long x4)]) hx hb dX12_hold_75 hl (by decide +kernel) rfl (fun ls hl => ?_)
            refine lv_aload hx hb dX12_hold_77 (lv_at hl 0 rfl) ?_
            refine va_get (D := D) (ci := 3) (v := .int (jz 1)) (C := RX4) (T := TX4) (N := 4) hx hb hts in_X12_hold_X4 hown hE.1 hP 7 rfl rfl 0 (by decide +kernel) (hts (.fieldLink RX12 359 "ClauseBook$Hand" "sort" "I") (List.mem_of_getElem? (i := 5) rfl)) (fun _ h9 => h9) rfl dX12_hold_79 ?_
            refine lv_istore (lv' := [(8, .int (jz 1)), (7, .ref t1), (0, .ref h0), (1, .int 1), (2, .int x2), (3, .long x3), (5, .long x4)]) hx hb dX12_hold_82 hl (by decide +kernel) rfl (fun ls hl => ?_)
            refine lv_aload hx hb dX12_hold_84 (lv_at hl 1 rfl) ?_
            refine lv_iload_n hx hb dX12_hold_86 rfl (lv_at hl 4 rfl) ?_
            refine va_put (D := D) (ci := 3) (v := .int x2) (ty := .int) (C := RX4) (T := TX4) (N := 4) hx hb hts in_X12_hold_X4 tyX4 tyX4_ok nmX4 hown hE.1 hP hD hS 7 rfl rfl 0 (by decide +kernel) (hts (.fieldLink RX12 359 "ClauseBook$Hand" "sort" "I") (List.mem_of_getElem? (i := 5) rfl)) (fun _ h9 => h9) rfl (by decide +kernel) rfl rfl (Nat.le_of_ble_eq_true rfl) dX12_hold_87 (fun H locs hP hD hS => ?_)
            obtain ⟨hP, hD⟩ := wPD [(h0, .inr (9, fs0)), (h1, .inr (1, fs1)), (h2, .inr (8, [v0, v1, .ref p0, .ref p1, v4, .int n])), (p0, .inl (T 1, 676, .inr (.inl f0))), (p1, .inl (T 1, 676, .inr (.inl f1))), (h3, .inl (T 7, 4, .inr (.inr (.inr (.inr (va_up (va_up (va_up (va_up (fun _ => none) 0 (some t0)) 1 (some t1)) 2 (some t2)) 3 (some t3))))))), (t0, .inr (3, [.int (jz 0), .int (jn 0), .long (ja 0), .long (jb 0)])), (t1, .inr (3, [.int x2, .int (jn 1), .long (ja 1), .long (jb 1)])), (t2, .inr (3, [.int (jz 2), .int (jn 2), .long (ja 2), .long (jb 2)])), (t3, .inr (3, [.int (jz 3), .int (jn 3), .long (ja 3), .long (jb 3)]))] hP hD rfl
            refine lv_iload_n hx hb dX12_hold_90 rfl (lv_at hl 4 rfl) ?_
            refine lv_iconst (v := 1) hx hb dX12_hold_91 (by decide +kernel) ?_
            refine lv_icmp_ne (tgt := 102) hx hb dX12_hold_92 (by decide +kernel) (fun c_22 => ?_) (fun c_22 => ?_)
            · rw [fa_eq] at c_22
              try rw [ti_1] at c_22
              refine lv_iload_n hx hb dX12_hold_102 rfl (lv_at hl 4 rfl) ?_
              refine lv_iconst (v := 2) hx hb dX12_hold_103 (by decide +kernel) ?_
              refine lv_icmp_ne (tgt := 152) hx hb dX12_hold_104 (by decide +kernel) (fun c_23 => ?_) (fun c_23 => ?_)
              · rw [fa_eq] at c_23
                try rw [ti_2] at c_23
                refine lv_iload hx hb dX12_hold_152 (lv_at hl 0 rfl) ?_
                exact W.iret hx hb hr (fun t ht hW => ⟨⟨_, (f0, f1, (fun k => [(jz 0), x2, (jz 2), (jz 3)].getD k 0), (fun k => [(jn 0), (jn 1), (jn 2), (jn 3)].getD k 0), (fun k => [(ja 0), (ja 1), (ja 2), (ja 3)].getD k 0), (fun k => [(jb 0), (jb 1), (jb 2), (jb 3)].getD k 0)), rfl, (Or.inr ⟨⟨⟨by decide, by decide⟩, by omega, (fun h9 => by omega), (fun h9 => by omega)⟩, rfl, all4' ⟨(fun h9 => absurd h9 (by decide +kernel)), (fun _ => ⟨rfl, rfl⟩)⟩ ⟨(fun _ => ⟨rfl, (fun h9 => by first | rfl | (exfalso; omega))⟩), (fun h9 => absurd (by decide +kernel) h9)⟩ ⟨(fun h9 => absurd h9 (by decide +kernel)), (fun _ => ⟨rfl, rfl⟩)⟩ ⟨(fun h9 => absurd h9 (by decide +kernel)), (fun _ => ⟨rfl, rfl⟩)⟩⟩), by rw [ht]; exact hP.sub [0, 1, 2, 3, 4, 5, 6, 7, 8, 9] rfl, hD.sub [0, 1, 2, 3, 4, 5, 6, 7, 8, 9] (by decide +kernel) rfl⟩, hS.F ht⟩) hS.2.2 dX12_hold_154
              · rw [fa_eq] at c_23
                try rw [ti_2] at c_23
                refine lv_aload_n hx hb dX12_hold_107 rfl (lv_at hl 2 rfl) ?_
                refine va_get (D := D) (ci := 9) (v := .ref h2) (C := RX12) (T := TX12) (N := 11) hx hb hts in_X12_hold_X12 hown hE.1 hP 0 rfl rfl 6 (by decide +kernel) (hts (.fieldLink RX12 43 "ClauseBook" "worth" "LClauseBook$Worth;") (List.mem_of_getElem? (i := 7) rfl)) (fun _ h9 => h9) e0_6 dX12_hold_108 ?_
                refine lv_sipush (v := 675) hx hb dX12_hold_111 (by decide +kernel) ?_
                refine lv_lload_n hx hb dX12_hold_114 rfl (lv_at hl 5 rfl) ?_
                refine lv_lload hx hb dX12_hold_115 (lv_at hl 6 rfl) ?_
                have hFc := va_free (wc := [(h2, .inr (8, [v0, v1, .ref p0, .ref p1, v4, .int n])), (p0, .inl (T 1, 676, .inr (.inl f0))), (p1, .inl (T 1, 676, .inr (.inl f1)))]) hD hS hA [2, 3, 4] rfl
                refine va_callv (va_runV (As := [.int 675, .long x3, .long x4]) (rest := []) ⟨hx, hb, hml, hown, hts⟩ (c_X11_reduce l D T _ h2 p0 p1 (v0) (v1) (v4) n f0 f1 675 x3 x4 (by first | decide | omega)) (cwV 3 hts gX12_hold_X11_reduce rfl rfl rfl hv_X11_reduce ⟨Nat.le_of_ble_eq_true rfl, Nat.le_of_ble_eq_true rfl⟩) (pW_V (q := (RX11, TX11, 6)) (ci := 8) (q0 := 2) hP hE hD rfl rfl [2, 3, 4] (by decide +kernel) rfl rfl) rfl rfl hl.1 rfl (lv_room (Nat.le_of_ble_eq_true rfl)) dX12_hold_117 ⟨Nat.le_of_ble_eq_true rfl, Nat.le_of_ble_eq_true rfl⟩) hS (fun q _ h => hFc q h) hFc (fun u_25 t H1 locs ht hvm hr_24 hB hz1 hk1 hS => ?_)
                obtain ⟨f_26, f_27⟩ := u_25
                obtain ⟨hP1, hD1⟩ := hB
                rw [ht] at hP1
                obtain ⟨hP, hD⟩ := va_repl [(h0, .inr (9, fs0)), (h1, .inr (1, fs1)), (h2, .inr (8, [v0, v1, .ref p0, .ref p1, v4, .int n])), (p0, .inl (T 1, 676, .inr (.inl f_26))), (p1, .inl (T 1, 676, .inr (.inl f_27))), (h3, .inl (T 7, 4, .inr (.inr (.inr (.inr (va_up (va_up (va_up (va_up (fun _ => none) 0 (some t0)) 1 (some t1)) 2 (some t2)) 3 (some t3))))))), (t0, .inr (3, [.int (jz 0), .int (jn 0), .long (ja 0), .long (jb 0)])), (t1, .inr (3, [.int x2, .int (jn 1), .long (ja 1), .long (jb 1)])), (t2, .inr (3, [.int (jz 2), .int (jn 2), .long (ja 2), .long (jb 2)])), (t3, .inr (3, [.int (jz 3), .int (jn 3), .long (ja 3), .long (jb 3)]))] hP hD [2, 3, 4] [2, 3, 4] rfl (by decide +kernel) rfl rfl rfl hk1 hP1
                clear hP1 hD1 hFc
                generalize H1 = H at hP hS ⊢
                refine lv_aload hx hb dX12_hold_120 (lv_at hl 1 rfl) ?_
                refine lv_aload_n hx hb dX12_hold_122 rfl (lv_at hl 2 rfl) ?_
                refine va_get (D := D) (ci := 9) (v := .ref h2) (C := RX12) (T := TX12) (N := 11) hx hb hts in_X12_hold_X12 hown hE.1 hP 0 rfl rfl 6 (by decide +kernel) (hts (.fieldLink RX12 43 "ClauseBook" "worth" "LClauseBook$Worth;") (List.mem_of_getElem? (i := 7) rfl)) (fun _ h9 => h9) e0_6 dX12_hold_123 ?_
                refine va_get (D := D) (ci := 8) (v := .ref p0) (C := RX11) (T := TX11) (N := 6) hx hb hts in_X12_hold_X11 hown hE.1 hP 2 rfl rfl 2 (by decide +kernel) (hts (.fieldLink RX12 202 "ClauseBook$Worth" "above" "[J") (List.mem_of_getElem? (i := 8) rfl)) (fun _ h9 => h9) rfl dX12_hold_126 ?_
                refine lv_sipush (v := 675) hx hb dX12_hold_129 (by decide +kernel) ?_
                refine va_lald hx hb hE.1 hP 3 1 rfl rfl (by unfold vp_in; decide) dX12_hold_132 ?_
                refine lv_topl (fun z_28 ez_28 => ?_)
                refine va_put (D := D) (ci := 3) (v := .long z_28) (ty := .long) (C := RX4) (T := TX4) (N := 4) hx hb hts in_X12_hold_X4 tyX4 tyX4_ok nmX4 hown hE.1 hP hD hS 7 rfl rfl 2 (by decide +kernel) (hts (.fieldLink RX12 365 "ClauseBook$Hand" "above" "J") (List.mem_of_getElem? (i := 9) rfl)) (fun _ h9 => h9) rfl (by decide +kernel) rfl rfl (Nat.le_of_ble_eq_true rfl) dX12_hold_133 (fun H locs hP hD hS => ?_)
                obtain ⟨hP, hD⟩ := wPD [(h0, .inr (9, fs0)), (h1, .inr (1, fs1)), (h2, .inr (8, [v0, v1, .ref p0, .ref p1, v4, .int n])), (p0, .inl (T 1, 676, .inr (.inl f_26))), (p1, .inl (T 1, 676, .inr (.inl f_27))), (h3, .inl (T 7, 4, .inr (.inr (.inr (.inr (va_up (va_up (va_up (va_up (fun _ => none) 0 (some t0)) 1 (some t1)) 2 (some t2)) 3 (some t3))))))), (t0, .inr (3, [.int (jz 0), .int (jn 0), .long (ja 0), .long (jb 0)])), (t1, .inr (3, [.int x2, .int (jn 1), .long z_28, .long (jb 1)])), (t2, .inr (3, [.int (jz 2), .int (jn 2), .long (ja 2), .long (jb 2)])), (t3, .inr (3, [.int (jz 3), .int (jn 3), .long (ja 3), .long (jb 3)]))] hP hD rfl
                refine lv_aload hx hb dX12_hold_136 (lv_at hl 1 rfl) ?_
                refine lv_aload_n hx hb dX12_hold_138 rfl (lv_at hl 2 rfl) ?_
                refine va_get (D := D) (ci := 9) (v := .ref h2) (C := RX12) (T := TX12) (N := 11) hx hb hts in_X12_hold_X12 hown hE.1 hP 0 rfl rfl 6 (by decide +kernel) (hts (.fieldLink RX12 43 "ClauseBook" "worth" "LClauseBook$Worth;") (List.mem_of_getElem? (i := 7) rfl)) (fun _ h9 => h9) e0_6 dX12_hold_139 ?_
                refine va_get (D := D) (ci := 8) (v := .ref p1) (C := RX11) (T := TX11) (N := 6) hx hb hts in_X12_hold_X11 hown hE.1 hP 2 rfl rfl 3 (by decide +kernel) (hts (.fieldLink RX12 206 "ClauseBook$Worth" "below" "[J") (List.mem_of_getElem? (i := 10) rfl)) (fun _ h9 => h9) rfl dX12_hold_142 ?_
                refine lv_sipush (v := 675) hx hb dX12_hold_145 (by decide +kernel) ?_
                refine va_lald hx hb hE.1 hP 4 1 rfl rfl (by unfold vp_in; decide) dX12_hold_148 ?_
                refine lv_topl (fun z_29 ez_29 => ?_)
                refine va_put (D := D) (ci := 3) (v := .long z_29) (ty := .long) (C := RX4) (T := TX4) (N := 4) hx hb hts in_X12_hold_X4 tyX4 tyX4_ok nmX4 hown hE.1 hP hD hS 7 rfl rfl 3 (by decide +kernel) (hts (.fieldLink RX12 368 "ClauseBook$Hand" "below" "J") (List.mem_of_getElem? (i := 11) rfl)) (fun _ h9 => h9) rfl (by decide +kernel) rfl rfl (Nat.le_of_ble_eq_true rfl) dX12_hold_149 (fun H locs hP hD hS => ?_)
                obtain ⟨hP, hD⟩ := wPD [(h0, .inr (9, fs0)), (h1, .inr (1, fs1)), (h2, .inr (8, [v0, v1, .ref p0, .ref p1, v4, .int n])), (p0, .inl (T 1, 676, .inr (.inl f_26))), (p1, .inl (T 1, 676, .inr (.inl f_27))), (h3, .inl (T 7, 4, .inr (.inr (.inr (.inr (va_up (va_up (va_up (va_up (fun _ => none) 0 (some t0)) 1 (some t1)) 2 (some t2)) 3 (some t3))))))), (t0, .inr (3, [.int (jz 0), .int (jn 0), .long (ja 0), .long (jb 0)])), (t1, .inr (3, [.int x2, .int (jn 1), .long z_28, .long z_29])), (t2, .inr (3, [.int (jz 2), .int (jn 2), .long (ja 2), .long (jb 2)])), (t3, .inr (3, [.int (jz 3), .int (jn 3), .long (ja 3), .long (jb 3)]))] hP hD rfl
                refine lv_iload hx hb dX12_hold_152 (lv_at hl 0 rfl) ?_
                exact W.iret hx hb hr (fun t ht hW => ⟨⟨_, (f_26, f_27, (fun k => [(jz 0), x2, (jz 2), (jz 3)].getD k 0), (fun k => [(jn 0), (jn 1), (jn 2), (jn 3)].getD k 0), (fun k => [(ja 0), z_28, (ja 2), (ja 3)].getD k 0), (fun k => [(jb 0), z_29, (jb 2), (jb 3)].getD k 0)), rfl, (Or.inr ⟨⟨⟨by decide, by decide⟩, by omega, (fun h9 => by omega), (fun h9 => by omega)⟩, rfl, all4' ⟨(fun h9 => absurd h9 (by decide +kernel)), (fun _ => ⟨rfl, rfl⟩)⟩ ⟨(fun _ => ⟨rfl, (fun h9 => by first | rfl | (exfalso; omega))⟩), (fun h9 => absurd (by decide +kernel) h9)⟩ ⟨(fun h9 => absurd h9 (by decide +kernel)), (fun _ => ⟨rfl, rfl⟩)⟩ ⟨(fun h9 => absurd h9 (by decide +kernel)), (fun _ => ⟨rfl, rfl⟩)⟩⟩), by rw [ht]; exact hP.sub [0, 1, 2, 3, 4, 5, 6, 7, 8, 9] rfl, hD.sub [0, 1, 2, 3, 4, 5, 6, 7, 8, 9] (by decide +kernel) rfl⟩, hS.F ht⟩) hS.2.2 dX12_hold_154
            · rw [fa_eq] at c_22
              try rw [ti_1] at c_22
              refine lv_aload hx hb dX12_hold_95 (lv_at hl 1 rfl) ?_
              refine lv_lload_n hx hb dX12_hold_97 rfl (lv_at hl 5 rfl) ?_
              refine lv_l2i hx hb dX12_hold_98 rfl ?_
              refine va_put (D := D) (ci := 3) (v := .int (x3.toInt32)) (ty := .int) (C := RX4) (T := TX4) (N := 4) hx hb hts in_X12_hold_X4 tyX4 tyX4_ok nmX4 hown hE.1 hP hD hS 7 rfl rfl 1 (by decide +kernel) (hts (.fieldLink RX12 360 "ClauseBook$Hand" "number" "I") (List.mem_of_getElem? (i := 6) rfl)) (fun _ h9 => h9) rfl (by decide +kernel) rfl rfl (Nat.le_of_ble_eq_true rfl) dX12_hold_99 (fun H locs hP hD hS => ?_)
              obtain ⟨hP, hD⟩ := wPD [(h0, .inr (9, fs0)), (h1, .inr (1, fs1)), (h2, .inr (8, [v0, v1, .ref p0, .ref p1, v4, .int n])), (p0, .inl (T 1, 676, .inr (.inl f0))), (p1, .inl (T 1, 676, .inr (.inl f1))), (h3, .inl (T 7, 4, .inr (.inr (.inr (.inr (va_up (va_up (va_up (va_up (fun _ => none) 0 (some t0)) 1 (some t1)) 2 (some t2)) 3 (some t3))))))), (t0, .inr (3, [.int (jz 0), .int (jn 0), .long (ja 0), .long (jb 0)])), (t1, .inr (3, [.int x2, .int (x3.toInt32), .long (ja 1), .long (jb 1)])), (t2, .inr (3, [.int (jz 2), .int (jn 2), .long (ja 2), .long (jb 2)])), (t3, .inr (3, [.int (jz 3), .int (jn 3), .long (ja 3), .long (jb 3)]))] hP hD rfl
              refine lv_iload_n hx hb dX12_hold_102 rfl (lv_at hl 4 rfl) ?_
              refine lv_iconst (v := 2) hx hb dX12_hold_103 (by decide +kernel) ?_
              refine lv_icmp_ne (tgt := 152) hx hb dX12_hold_104 (by decide +kernel) (fun c_30 => ?_) (fun c_30 => ?_)
              · rw [fa_eq] at c_30
                try rw [ti_2] at c_30
                refine lv_iload hx hb dX12_hold_152 (lv_at hl 0 rfl) ?_
                exact W.iret hx hb hr (fun t ht hW => ⟨⟨_, (f0, f1, (fun k => [(jz 0), x2, (jz 2), (jz 3)].getD k 0), (fun k => [(jn 0), (x3.toInt32), (jn 2), (jn 3)].getD k 0), (fun k => [(ja 0), (ja 1), (ja 2), (ja 3)].getD k 0), (fun k => [(jb 0), (jb 1), (jb 2), (jb 3)].getD k 0)), rfl, (Or.inr ⟨⟨⟨by decide, by decide⟩, by omega, (fun h9 => by omega), (fun h9 => by omega)⟩, rfl, all4' ⟨(fun h9 => absurd h9 (by decide +kernel)), (fun _ => ⟨rfl, rfl⟩)⟩ ⟨(fun _ => ⟨rfl, (fun h9 => by first | rfl | (exfalso; omega))⟩), (fun h9 => absurd (by decide +kernel) h9)⟩ ⟨(fun h9 => absurd h9 (by decide +kernel)), (fun _ => ⟨rfl, rfl⟩)⟩ ⟨(fun h9 => absurd h9 (by decide +kernel)), (fun _ => ⟨rfl, rfl⟩)⟩⟩), by rw [ht]; exact hP.sub [0, 1, 2, 3, 4, 5, 6, 7, 8, 9] rfl, hD.sub [0, 1, 2, 3, 4, 5, 6, 7, 8, 9] (by decide +kernel) rfl⟩, hS.F ht⟩) hS.2.2 dX12_hold_154
              · rw [fa_eq] at c_30
                try rw [ti_2] at c_30
                refine lv_aload_n hx hb dX12_hold_107 rfl (lv_at hl 2 rfl) ?_
                refine va_get (D := D) (ci := 9) (v := .ref h2) (C := RX12) (T := TX12) (N := 11) hx hb hts in_X12_hold_X12 hown hE.1 hP 0 rfl rfl 6 (by decide +kernel) (hts (.fieldLink RX12 43 "ClauseBook" "worth" "LClauseBook$Worth;") (List.mem_of_getElem? (i := 7) rfl)) (fun _ h9 => h9) e0_6 dX12_hold_108 ?_
                refine lv_sipush (v := 675) hx hb dX12_hold_111 (by decide +kernel) ?_
                refine lv_lload_n hx hb dX12_hold_114 rfl (lv_at hl 5 rfl) ?_
                refine lv_lload hx hb dX12_hold_115 (lv_at hl 6 rfl) ?_
                have hFc := va_free (wc := [(h2, .inr (8, [v0, v1, .ref p0, .ref p1, v4, .int n])), (p0, .inl (T 1, 676, .inr (.inl f0))), (p1, .inl (T 1, 676, .inr (.inl f1)))]) hD hS hA [2, 3, 4] rfl
                refine va_callv (va_runV (As := [.int 675, .long x3, .long x4]) (rest := []) ⟨hx, hb, hml, hown, hts⟩ (c_X11_reduce l D T _ h2 p0 p1 (v0) (v1) (v4) n f0 f1 675 x3 x4 (by first | decide | omega)) (cwV 3 hts gX12_hold_X11_reduce rfl rfl rfl hv_X11_reduce ⟨Nat.le_of_ble_eq_true rfl, Nat.le_of_ble_eq_true rfl⟩) (pW_V (q := (RX11, TX11, 6)) (ci := 8) (q0 := 2) hP hE hD rfl rfl [2, 3, 4] (by decide +kernel) rfl rfl) rfl rfl hl.1 rfl (lv_room (Nat.le_of_ble_eq_true rfl)) dX12_hold_117 ⟨Nat.le_of_ble_eq_true rfl, Nat.le_of_ble_eq_true rfl⟩) hS (fun q _ h => hFc q h) hFc (fun u_32 t H1 locs ht hvm hr_31 hB hz1 hk1 hS => ?_)
                obtain ⟨f_33, f_34⟩ := u_32
                obtain ⟨hP1, hD1⟩ := hB
                rw [ht] at hP1
                obtain ⟨hP, hD⟩ := va_repl [(h0, .inr (9, fs0)), (h1, .inr (1, fs1)), (h2, .inr (8, [v0, v1, .ref p0, .ref p1, v4, .int n])), (p0, .inl (T 1, 676, .inr (.inl f_33))), (p1, .inl (T 1, 676, .inr (.inl f_34))), (h3, .inl (T 7, 4, .inr (.inr (.inr (.inr (va_up (va_up (va_up (va_up (fun _ => none) 0 (some t0)) 1 (some t1)) 2 (some t2)) 3 (some t3))))))), (t0, .inr (3, [.int (jz 0), .int (jn 0), .long (ja 0), .long (jb 0)])), (t1, .inr (3, [.int x2, .int (x3.toInt32), .long (ja 1), .long (jb 1)])), (t2, .inr (3, [.int (jz 2), .int (jn 2), .long (ja 2), .long (jb 2)])), (t3, .inr (3, [.int (jz 3), .int (jn 3), .long (ja 3), .long (jb 3)]))] hP hD [2, 3, 4] [2, 3, 4] rfl (by decide +kernel) rfl rfl rfl hk1 hP1
                clear hP1 hD1 hFc
                generalize H1 = H at hP hS ⊢
                refine lv_aload hx hb dX12_hold_120 (lv_at hl 1 rfl) ?_
                refine lv_aload_n hx hb dX12_hold_122 rfl (lv_at hl 2 rfl) ?_
                refine va_get (D := D) (ci := 9) (v := .ref h2) (C := RX12) (T := TX12) (N := 11) hx hb hts in_X12_hold_X12 hown hE.1 hP 0 rfl rfl 6 (by decide +kernel) (hts (.fieldLink RX12 43 "ClauseBook" "worth" "LClauseBook$Worth;") (List.mem_of_getElem? (i := 7) rfl)) (fun _ h9 => h9) e0_6 dX12_hold_123 ?_
                refine va_get (D := D) (ci := 8) (v := .ref p0) (C := RX11) (T := TX11) (N := 6) hx hb hts in_X12_hold_X11 hown hE.1 hP 2 rfl rfl 2 (by decide +kernel) (hts (.fieldLink RX12 202 "ClauseBook$Worth" "above" "[J") (List.mem_of_getElem? (i := 8) rfl)) (fun _ h9 => h9) rfl dX12_hold_126 ?_
                refine lv_sipush (v := 675) hx hb dX12_hold_129 (by decide +kernel) ?_
                refine va_lald hx hb hE.1 hP 3 1 rfl rfl (by unfold vp_in; decide) dX12_hold_132 ?_
                refine lv_topl (fun z_35 ez_35 => ?_)
                refine va_put (D := D) (ci := 3) (v := .long z_35) (ty := .long) (C := RX4) (T := TX4) (N := 4) hx hb hts in_X12_hold_X4 tyX4 tyX4_ok nmX4 hown hE.1 hP hD hS 7 rfl rfl 2 (by decide +kernel) (hts (.fieldLink RX12 365 "ClauseBook$Hand" "above" "J") (List.mem_of_getElem? (i := 9) rfl)) (fun _ h9 => h9) rfl (by decide +kernel) rfl rfl (Nat.le_of_ble_eq_true rfl) dX12_hold_133 (fun H locs hP hD hS => ?_)
                obtain ⟨hP, hD⟩ := wPD [(h0, .inr (9, fs0)), (h1, .inr (1, fs1)), (h2, .inr (8, [v0, v1, .ref p0, .ref p1, v4, .int n])), (p0, .inl (T 1, 676, .inr (.inl f_33))), (p1, .inl (T 1, 676, .inr (.inl f_34))), (h3, .inl (T 7, 4, .inr (.inr (.inr (.inr (va_up (va_up (va_up (va_up (fun _ => none) 0 (some t0)) 1 (some t1)) 2 (some t2)) 3 (some t3))))))), (t0, .inr (3, [.int (jz 0), .int (jn 0), .long (ja 0), .long (jb 0)])), (t1, .inr (3, [.int x2, .int (x3.toInt32), .long z_35, .long (jb 1)])), (t2, .inr (3, [.int (jz 2), .int (jn 2), .long (ja 2), .long (jb 2)])), (t3, .inr (3, [.int (jz 3), .int (jn 3), .long (ja 3), .long (jb 3)]))] hP hD rfl
                refine lv_aload hx hb dX12_hold_136 (lv_at hl 1 rfl) ?_
                refine lv_aload_n hx hb dX12_hold_138 rfl (lv_at hl 2 rfl) ?_
                refine va_get (D := D) (ci := 9) (v := .ref h2) (C := RX12) (T := TX12) (N := 11) hx hb hts in_X12_hold_X12 hown hE.1 hP 0 rfl rfl 6 (by decide +kernel) (hts (.fieldLink RX12 43 "ClauseBook" "worth" "LClauseBook$Worth;") (List.mem_of_getElem? (i := 7) rfl)) (fun _ h9 => h9) e0_6 dX12_hold_139 ?_
                refine va_get (D := D) (ci := 8) (v := .ref p1) (C := RX11) (T := TX11) (N := 6) hx hb hts in_X12_hold_X11 hown hE.1 hP 2 rfl rfl 3 (by decide +kernel) (hts (.fieldLink RX12 206 "ClauseBook$Worth" "below" "[J") (List.mem_of_getElem? (i := 10) rfl)) (fun _ h9 => h9) rfl dX12_hold_142 ?_
                refine lv_sipush (v := 675) hx hb dX12_hold_145 (by decide +kernel) ?_
                refine va_lald hx hb hE.1 hP 4 1 rfl rfl (by unfold vp_in; decide) dX12_hold_148 ?_
                refine lv_topl (fun z_36 ez_36 => ?_)
                refine va_put (D := D) (ci := 3) (v := .long z_36) (ty := .long) (C := RX4) (T := TX4) (N := 4) hx hb hts in_X12_hold_X4 tyX4 tyX4_ok nmX4 hown hE.1 hP hD hS 7 rfl rfl 3 (by decide +kernel) (hts (.fieldLink RX12 368 "ClauseBook$Hand" "below" "J") (List.mem_of_getElem? (i := 11) rfl)) (fun _ h9 => h9) rfl (by decide +kernel) rfl rfl (Nat.le_of_ble_eq_true rfl) dX12_hold_149 (fun H locs hP hD hS => ?_)
                obtain ⟨hP, hD⟩ := wPD [(h0, .inr (9, fs0)), (h1, .inr (1, fs1)), (h2, .inr (8, [v0, v1, .ref p0, .ref p1, v4, .int n])), (p0, .inl (T 1, 676, .inr (.inl f_33))), (p1, .inl (T 1, 676, .inr (.inl f_34))), (h3, .inl (T 7, 4, .inr (.inr (.inr (.inr (va_up (va_up (va_up (va_up (fun _ => none) 0 (some t0)) 1 (some t1)) 2 (some t2)) 3 (some t3))))))), (t0, .inr (3, [.int (jz 0), .int (jn 0), .long (ja 0), .long (jb 0)])), (t1, .inr (3, [.int x2, .int (x3.toInt32), .long z_35, .long z_36])), (t2, .inr (3, [.int (jz 2), .int (jn 2), .long (ja 2), .long (jb 2)])), (t3, .inr (3, [.int (jz 3), .int (jn 3), .long (ja 3), .long (jb 3)]))] hP hD rfl
                refine lv_iload hx hb dX12_hold_152 (lv_at hl 0 rfl) ?_
                exact W.iret hx hb hr (fun t ht hW => ⟨⟨_, (f_33, f_34, (fun k => [(jz 0), x2, (jz 2), (jz 3)].getD k 0), (fun k => [(jn 0), (x3.toInt32), (jn 2), (jn 3)].getD k 0), (fun k => [(ja 0), z_35, (ja 2), (ja 3)].getD k 0), (fun k => [(jb 0), z_36, (jb 2), (jb 3)].getD k 0)), rfl, (Or.inr ⟨⟨⟨by decide, by decide⟩, by omega, (fun h9 => by omega), (fun h9 => by omega)⟩, rfl, all4' ⟨(fun h9 => absurd h9 (by decide +kernel)), (fun _ => ⟨rfl, rfl⟩)⟩ ⟨(fun _ => ⟨rfl, (fun h9 => by first | rfl | (exfalso; omega))⟩), (fun h9 => absurd (by decide +kernel) h9)⟩ ⟨(fun h9 => absurd h9 (by decide +kernel)), (fun _ => ⟨rfl, rfl⟩)⟩ ⟨(fun h9 => absurd h9 (by decide +kernel)), (fun _ => ⟨rfl, rfl⟩)⟩⟩), by rw [ht]; exact hP.sub [0, 1, 2, 3, 4, 5, 6, 7, 8, 9] rfl, hD.sub [0, 1, 2, 3, 4, 5, 6, 7, 8, 9] (by decide +kernel) rfl⟩, hS.F ht⟩) hS.2.2 dX12_hold_154
          · refine va_aldq hx hb hE.1 hP 5 7 rfl rfl (by unfold vp_in; decide) dX12_hold_74 ?_
            refine W.eq (g2 := F0 m 75 ls [.ref t2]) rfl ?_
            refine lv_astore (lv' := [(7, .ref t2), (0, .ref h0), (1, .int 2), (2, .int x2), (3, .long x3), (5, .long x4)]) hx hb dX12_hold_75 hl (by decide +kernel) rfl (fun ls hl => ?_)
            refine lv_aload hx hb dX12_hold_77 (lv_at hl 0 rfl) ?_
            refine va_get (D := D) (ci := 3) (v := .int (jz 2)) (C := RX4) (T := TX4) (N := 4) hx hb hts in_X12_hold_X4 hown hE.1 hP 8 rfl rfl 0 (by decide +kernel) (hts (.fieldLink RX12 359 "ClauseBook$Hand" "sort" "I") (List.mem_of_getElem? (i := 5) rfl)) (fun _ h9 => h9) rfl dX12_hold_79 ?_
            refine lv_istore (lv' := [(8, .int (jz 2)), (7, .ref t2), (0, .ref h0), (1, .int 2), (2, .int x2), (3, .long x3), (5, .long x4)]) hx hb dX12_hold_82 hl (by decide +kernel) rfl (fun ls hl => ?_)
            refine lv_aload hx hb dX12_hold_84 (lv_at hl 1 rfl) ?_
            refine lv_iload_n hx hb dX12_hold_86 rfl (lv_at hl 4 rfl) ?_
            refine va_put (D := D) (ci := 3) (v := .int x2) (ty := .int) (C := RX4) (T := TX4) (N := 4) hx hb hts in_X12_hold_X4 tyX4 tyX4_ok nmX4 hown hE.1 hP hD hS 8 rfl rfl 0 (by decide +kernel) (hts (.fieldLink RX12 359 "ClauseBook$Hand" "sort" "I") (List.mem_of_getElem? (i := 5) rfl)) (fun _ h9 => h9) rfl (by decide +kernel) rfl rfl (Nat.le_of_ble_eq_true rfl) dX12_hold_87 (fun H locs hP hD hS => ?_)
            obtain ⟨hP, hD⟩ := wPD [(h0, .inr (9, fs0)), (h1, .inr (1, fs1)), (h2, .inr (8, [v0, v1, .ref p0, .ref p1, v4, .int n])), (p0, .inl (T 1, 676, .inr (.inl f0))), (p1, .inl (T 1, 676, .inr (.inl f1))), (h3, .inl (T 7, 4, .inr (.inr (.inr (.inr (va_up (va_up (va_up (va_up (fun _ => none) 0 (some t0)) 1 (some t1)) 2 (some t2)) 3 (some t3))))))), (t0, .inr (3, [.int (jz 0), .int (jn 0), .long (ja 0), .long (jb 0)])), (t1, .inr (3, [.int (jz 1), .int (jn 1), .long (ja 1), .long (jb 1)])), (t2, .inr (3, [.int x2, .int (jn 2), .long (ja 2), .long (jb 2)])), (t3, .inr (3, [.int (jz 3), .int (jn 3), .long (ja 3), .long (jb 3)]))] hP hD rfl
            refine lv_iload_n hx hb dX12_hold_90 rfl (lv_at hl 4 rfl) ?_
            refine lv_iconst (v := 1) hx hb dX12_hold_91 (by decide +kernel) ?_
            refine lv_icmp_ne (tgt := 102) hx hb dX12_hold_92 (by decide +kernel) (fun c_37 => ?_) (fun c_37 => ?_)
            · rw [fa_eq] at c_37
              try rw [ti_1] at c_37
              refine lv_iload_n hx hb dX12_hold_102 rfl (lv_at hl 4 rfl) ?_
              refine lv_iconst (v := 2) hx hb dX12_hold_103 (by decide +kernel) ?_
              refine lv_icmp_ne (tgt := 152) hx hb dX12_hold_104 (by decide +kernel) (fun c_38 => ?_) (fun c_38 => ?_)
              · rw [fa_eq] at c_38
                try rw [ti_2] at c_38
                refine lv_iload hx hb dX12_hold_152 (lv_at hl 0 rfl) ?_
                exact W.iret hx hb hr (fun t ht hW => ⟨⟨_, (f0, f1, (fun k => [(jz 0), (jz 1), x2, (jz 3)].getD k 0), (fun k => [(jn 0), (jn 1), (jn 2), (jn 3)].getD k 0), (fun k => [(ja 0), (ja 1), (ja 2), (ja 3)].getD k 0), (fun k => [(jb 0), (jb 1), (jb 2), (jb 3)].getD k 0)), rfl, (Or.inr ⟨⟨⟨by decide, by decide⟩, by omega, (fun h9 => by omega), (fun h9 => by omega)⟩, rfl, all4' ⟨(fun h9 => absurd h9 (by decide +kernel)), (fun _ => ⟨rfl, rfl⟩)⟩ ⟨(fun h9 => absurd h9 (by decide +kernel)), (fun _ => ⟨rfl, rfl⟩)⟩ ⟨(fun _ => ⟨rfl, (fun h9 => by first | rfl | (exfalso; omega))⟩), (fun h9 => absurd (by decide +kernel) h9)⟩ ⟨(fun h9 => absurd h9 (by decide +kernel)), (fun _ => ⟨rfl, rfl⟩)⟩⟩), by rw [ht]; exact hP.sub [0, 1, 2, 3, 4, 5, 6, 7, 8, 9] rfl, hD.sub [0, 1, 2, 3, 4, 5, 6, 7, 8, 9] (by decide +kernel) rfl⟩, hS.F ht⟩) hS.2.2 dX12_hold_154
              · rw [fa_eq] at c_38
                try rw [ti_2] at c_38
                refine lv_aload_n hx hb dX12_hold_107 rfl (lv_at hl 2 rfl) ?_
                refine va_get (D := D) (ci := 9) (v := .ref h2) (C := RX12) (T := TX12) (N := 11) hx hb hts in_X12_hold_X12 hown hE.1 hP 0 rfl rfl 6 (by decide +kernel) (hts (.fieldLink RX12 43 "ClauseBook" "worth" "LClauseBook$Worth;") (List.mem_of_getElem? (i := 7) rfl)) (fun _ h9 => h9) e0_6 dX12_hold_108 ?_
                refine lv_sipush (v := 675) hx hb dX12_hold_111 (by decide +kernel) ?_
                refine lv_lload_n hx hb dX12_hold_114 rfl (lv_at hl 5 rfl) ?_
                refine lv_lload hx hb dX12_hold_115 (lv_at hl 6 rfl) ?_
                have hFc := va_free (wc := [(h2, .inr (8, [v0, v1, .ref p0, .ref p1, v4, .int n])), (p0, .inl (T 1, 676, .inr (.inl f0))), (p1, .inl (T 1, 676, .inr (.inl f1)))]) hD hS hA [2, 3, 4] rfl
                refine va_callv (va_runV (As := [.int 675, .long x3, .long x4]) (rest := []) ⟨hx, hb, hml, hown, hts⟩ (c_X11_reduce l D T _ h2 p0 p1 (v0) (v1) (v4) n f0 f1 675 x3 x4 (by first | decide | omega)) (cwV 3 hts gX12_hold_X11_reduce rfl rfl rfl hv_X11_reduce ⟨Nat.le_of_ble_eq_true rfl, Nat.le_of_ble_eq_true rfl⟩) (pW_V (q := (RX11, TX11, 6)) (ci := 8) (q0 := 2) hP hE hD rfl rfl [2, 3, 4] (by decide +kernel) rfl rfl) rfl rfl hl.1 rfl (lv_room (Nat.le_of_ble_eq_true rfl)) dX12_hold_117 ⟨Nat.le_of_ble_eq_true rfl, Nat.le_of_ble_eq_true rfl⟩) hS (fun q _ h => hFc q h) hFc (fun u_40 t H1 locs ht hvm hr_39 hB hz1 hk1 hS => ?_)
                obtain ⟨f_41, f_42⟩ := u_40
                obtain ⟨hP1, hD1⟩ := hB
                rw [ht] at hP1
                obtain ⟨hP, hD⟩ := va_repl [(h0, .inr (9, fs0)), (h1, .inr (1, fs1)), (h2, .inr (8, [v0, v1, .ref p0, .ref p1, v4, .int n])), (p0, .inl (T 1, 676, .inr (.inl f_41))), (p1, .inl (T 1, 676, .inr (.inl f_42))), (h3, .inl (T 7, 4, .inr (.inr (.inr (.inr (va_up (va_up (va_up (va_up (fun _ => none) 0 (some t0)) 1 (some t1)) 2 (some t2)) 3 (some t3))))))), (t0, .inr (3, [.int (jz 0), .int (jn 0), .long (ja 0), .long (jb 0)])), (t1, .inr (3, [.int (jz 1), .int (jn 1), .long (ja 1), .long (jb 1)])), (t2, .inr (3, [.int x2, .int (jn 2), .long (ja 2), .long (jb 2)])), (t3, .inr (3, [.int (jz 3), .int (jn 3), .long (ja 3), .long (jb 3)]))] hP hD [2, 3, 4] [2, 3, 4] rfl (by decide +kernel) rfl rfl rfl hk1 hP1
                clear hP1 hD1 hFc
                generalize H1 = H at hP hS ⊢
                refine lv_aload hx hb dX12_hold_120 (lv_at hl 1 rfl) ?_
                refine lv_aload_n hx hb dX12_hold_122 rfl (lv_at hl 2 rfl) ?_
                refine va_get (D := D) (ci := 9) (v := .ref h2) (C := RX12) (T := TX12) (N := 11) hx hb hts in_X12_hold_X12 hown hE.1 hP 0 rfl rfl 6 (by decide +kernel) (hts (.fieldLink RX12 43 "ClauseBook" "worth" "LClauseBook$Worth;") (List.mem_of_getElem? (i := 7) rfl)) (fun _ h9 => h9) e0_6 dX12_hold_123 ?_
                refine va_get (D := D) (ci := 8) (v := .ref p0) (C := RX11) (T := TX11) (N := 6) hx hb hts in_X12_hold_X11 hown hE.1 hP 2 rfl rfl 2 (by decide +kernel) (hts (.fieldLink RX12 202 "ClauseBook$Worth" "above" "[J") (List.mem_of_getElem? (i := 8) rfl)) (fun _ h9 => h9) rfl dX12_hold_126 ?_
                refine lv_sipush (v := 675) hx hb dX12_hold_129 (by decide +kernel) ?_
                refine va_lald hx hb hE.1 hP 3 1 rfl rfl (by unfold vp_in; decide) dX12_hold_132 ?_
                refine lv_topl (fun z_43 ez_43 => ?_)
                refine va_put (D := D) (ci := 3) (v := .long z_43) (ty := .long) (C := RX4) (T := TX4) (N := 4) hx hb hts in_X12_hold_X4 tyX4 tyX4_ok nmX4 hown hE.1 hP hD hS 8 rfl rfl 2 (by decide +kernel) (hts (.fieldLink RX12 365 "ClauseBook$Hand" "above" "J") (List.mem_of_getElem? (i := 9) rfl)) (fun _ h9 => h9) rfl (by decide +kernel) rfl rfl (Nat.le_of_ble_eq_true rfl) dX12_hold_133 (fun H locs hP hD hS => ?_)
                obtain ⟨hP, hD⟩ := wPD [(h0, .inr (9, fs0)), (h1, .inr (1, fs1)), (h2, .inr (8, [v0, v1, .ref p0, .ref p1, v4, .int n])), (p0, .inl (T 1, 676, .inr (.inl f_41))), (p1, .inl (T 1, 676, .inr (.inl f_42))), (h3, .inl (T 7, 4, .inr (.inr (.inr (.inr (va_up (va_up (va_up (va_up (fun _ => none) 0 (some t0)) 1 (some t1)) 2 (some t2)) 3 (some t3))))))), (t0, .inr (3, [.int (jz 0), .int (jn 0), .long (ja 0), .long (jb 0)])), (t1, .inr (3, [.int (jz 1), .int (jn 1), .long (ja 1), .long (jb 1)])), (t2, .inr (3, [.int x2, .int (jn 2), .long z_43, .long (jb 2)])), (t3, .inr (3, [.int (jz 3), .int (jn 3), .long (ja 3), .long (jb 3)]))] hP hD rfl
                refine lv_aload hx hb dX12_hold_136 (lv_at hl 1 rfl) ?_
                refine lv_aload_n hx hb dX12_hold_138 rfl (lv_at hl 2 rfl) ?_
                refine va_get (D := D) (ci := 9) (v := .ref h2) (C := RX12) (T := TX12) (N := 11) hx hb hts in_X12_hold_X12 hown hE.1 hP 0 rfl rfl 6 (by decide +kernel) (hts (.fieldLink RX12 43 "ClauseBook" "worth" "LClauseBook$Worth;") (List.mem_of_getElem? (i := 7) rfl)) (fun _ h9 => h9) e0_6 dX12_hold_139 ?_
                refine va_get (D := D) (ci := 8) (v := .ref p1) (C := RX11) (T := TX11) (N := 6) hx hb hts in_X12_hold_X11 hown hE.1 hP 2 rfl rfl 3 (by decide +kernel) (hts (.fieldLink RX12 206 "ClauseBook$Worth" "below" "[J") (List.mem_of_getElem? (i := 10) rfl)) (fun _ h9 => h9) rfl dX12_hold_142 ?_
                refine lv_sipush (v := 675) hx hb dX12_hold_145 (by decide +kernel) ?_
                refine va_lald hx hb hE.1 hP 4 1 rfl rfl (by unfold vp_in; decide) dX12_hold_148 ?_
                refine lv_topl (fun z_44 ez_44 => ?_)
                refine va_put (D := D) (ci := 3) (v := .long z_44) (ty := .long) (C := RX4) (T := TX4) (N := 4) hx hb hts in_X12_hold_X4 tyX4 tyX4_ok nmX4 hown hE.1 hP hD hS 8 rfl rfl 3 (by decide +kernel) (hts (.fieldLink RX12 368 "ClauseBook$Hand" "below" "J") (List.mem_of_getElem? (i := 11) rfl)) (fun _ h9 => h9) rfl (by decide +kernel) rfl rfl (Nat.le_of_ble_eq_true rfl) dX12_hold_149 (fun H locs hP hD hS => ?_)
                obtain ⟨hP, hD⟩ := wPD [(h0, .inr (9, fs0)), (h1, .inr (1, fs1)), (h2, .inr (8, [v0, v1, .ref p0, .ref p1, v4, .int n])), (p0, .inl (T 1, 676, .inr (.inl f_41))), (p1, .inl (T 1, 676, .inr (.inl f_42))), (h3, .inl (T 7, 4, .inr (.inr (.inr (.inr (va_up (va_up (va_up (va_up (fun _ => none) 0 (some t0)) 1 (some t1)) 2 (some t2)) 3 (some t3))))))), (t0, .inr (3, [.int (jz 0), .int (jn 0), .long (ja 0), .long (jb 0)])), (t1, .inr (3, [.int (jz 1), .int (jn 1), .long (ja 1), .long (jb 1)])), (t2, .inr (3, [.int x2, .int (jn 2), .long z_43, .long z_44])), (t3, .inr (3, [.int (jz 3), .int (jn 3), .long (ja 3), .long (jb 3)]))] hP hD rfl
                refine lv_iload hx hb dX12_hold_152 (lv_at hl 0 rfl) ?_
                exact W.iret hx hb hr (fun t ht hW => ⟨⟨_, (f_41, f_42, (fun k => [(jz 0), (jz 1), x2, (jz 3)].getD k 0), (fun k => [(jn 0), (jn 1), (jn 2), (jn 3)].getD k 0), (fun k => [(ja 0), (ja 1), z_43, (ja 3)].getD k 0), (fun k => [(jb 0), (jb 1), z_44, (jb 3)].getD k 0)), rfl, (Or.inr ⟨⟨⟨by decide, by decide⟩, by omega, (fun h9 => by omega), (fun h9 => by omega)⟩, rfl, all4' ⟨(fun h9 => absurd h9 (by decide +kernel)), (fun _ => ⟨rfl, rfl⟩)⟩ ⟨(fun h9 => absurd h9 (by decide +kernel)), (fun _ => ⟨rfl, rfl⟩)⟩ ⟨(fun _ => ⟨rfl, (fun h9 => by first | rfl | (exfalso; omega))⟩), (fun h9 => absurd (by decide +kernel) h9)⟩ ⟨(fun h9 => absurd h9 (by decide +kernel)), (fun _ => ⟨rfl, rfl⟩)⟩⟩), by rw [ht]; exact hP.sub [0, 1, 2, 3, 4, 5, 6, 7, 8, 9] rfl, hD.sub [0, 1, 2, 3, 4, 5, 6, 7, 8, 9] (by decide +kernel) rfl⟩, hS.F ht⟩) hS.2.2 dX12_hold_154
            · rw [fa_eq] at c_37
              try rw [ti_1] at c_37
              refine lv_aload hx hb dX12_hold_95 (lv_at hl 1 rfl) ?_
              refine lv_lload_n hx hb dX12_hold_97 rfl (lv_at hl 5 rfl) ?_
              refine lv_l2i hx hb dX12_hold_98 rfl ?_
              refine va_put (D := D) (ci := 3) (v := .int (x3.toInt32)) (ty := .int) (C := RX4) (T := TX4) (N := 4) hx hb hts in_X12_hold_X4 tyX4 tyX4_ok nmX4 hown hE.1 hP hD hS 8 rfl rfl 1 (by decide +kernel) (hts (.fieldLink RX12 360 "ClauseBook$Hand" "number" "I") (List.mem_of_getElem? (i := 6) rfl)) (fun _ h9 => h9) rfl (by decide +kernel) rfl rfl (Nat.le_of_ble_eq_true rfl) dX12_hold_99 (fun H locs hP hD hS => ?_)
              obtain ⟨hP, hD⟩ := wPD [(h0, .inr (9, fs0)), (h1, .inr (1, fs1)), (h2, .inr (8, [v0, v1, .ref p0, .ref p1, v4, .int n])), (p0, .inl (T 1, 676, .inr (.inl f0))), (p1, .inl (T 1, 676, .inr (.inl f1))), (h3, .inl (T 7, 4, .inr (.inr (.inr (.inr (va_up (va_up (va_up (va_up (fun _ => none) 0 (some t0)) 1 (some t1)) 2 (some t2)) 3 (some t3))))))), (t0, .inr (3, [.int (jz 0), .int (jn 0), .long (ja 0), .long (jb 0)])), (t1, .inr (3, [.int (jz 1), .int (jn 1), .long (ja 1), .long (jb 1)])), (t2, .inr (3, [.int x2, .int (x3.toInt32), .long (ja 2), .long (jb 2)])), (t3, .inr (3, [.int (jz 3), .int (jn 3), .long (ja 3), .long (jb 3)]))] hP hD rfl
              refine lv_iload_n hx hb dX12_hold_102 rfl (lv_at hl 4 rfl) ?_
              refine lv_iconst (v := 2) hx hb dX12_hold_103 (by decide +kernel) ?_
              refine lv_icmp_ne (tgt := 152) hx hb dX12_hold_104 (by decide +kernel) (fun c_45 => ?_) (fun c_45 => ?_)
              · rw [fa_eq] at c_45
                try rw [ti_2] at c_45
                refine lv_iload hx hb dX12_hold_152 (lv_at hl 0 rfl) ?_
                exact W.iret hx hb hr (fun t ht hW => ⟨⟨_, (f0, f1, (fun k => [(jz 0), (jz 1), x2, (jz 3)].getD k 0), (fun k => [(jn 0), (jn 1), (x3.toInt32), (jn 3)].getD k 0), (fun k => [(ja 0), (ja 1), (ja 2), (ja 3)].getD k 0), (fun k => [(jb 0), (jb 1), (jb 2), (jb 3)].getD k 0)), rfl, (Or.inr ⟨⟨⟨by decide, by decide⟩, by omega, (fun h9 => by omega), (fun h9 => by omega)⟩, rfl, all4' ⟨(fun h9 => absurd h9 (by decide +kernel)), (fun _ => ⟨rfl, rfl⟩)⟩ ⟨(fun h9 => absurd h9 (by decide +kernel)), (fun _ => ⟨rfl, rfl⟩)⟩ ⟨(fun _ => ⟨rfl, (fun h9 => by first | rfl | (exfalso; omega))⟩), (fun h9 => absurd (by decide +kernel) h9)⟩ ⟨(fun h9 => absurd h9 (by decide +kernel)), (fun _ => ⟨rfl, rfl⟩)⟩⟩), by rw [ht]; exact hP.sub [0, 1, 2, 3, 4, 5, 6, 7, 8, 9] rfl, hD.sub [0, 1, 2, 3, 4, 5, 6, 7, 8, 9] (by decide +kernel) rfl⟩, hS.F ht⟩) hS.2.2 dX12_hold_154
              · rw [fa_eq] at c_45
                try rw [ti_2] at c_45
                refine lv_aload_n hx hb dX12_hold_107 rfl (lv_at hl 2 rfl) ?_
                refine va_get (D := D) (ci := 9) (v := .ref h2) (C := RX12) (T := TX12) (N := 11) hx hb hts in_X12_hold_X12 hown hE.1 hP 0 rfl rfl 6 (by decide +kernel) (hts (.fieldLink RX12 43 "ClauseBook" "worth" "LClauseBook$Worth;") (List.mem_of_getElem? (i := 7) rfl)) (fun _ h9 => h9) e0_6 dX12_hold_108 ?_
                refine lv_sipush (v := 675) hx hb dX12_hold_111 (by decide +kernel) ?_
                refine lv_lload_n hx hb dX12_hold_114 rfl (lv_at hl 5 rfl) ?_
                refine lv_lload hx hb dX12_hold_115 (lv_at hl 6 rfl) ?_
                have hFc := va_free (wc := [(h2, .inr (8, [v0, v1, .ref p0, .ref p1, v4, .int n])), (p0, .inl (T 1, 676, .inr (.inl f0))), (p1, .inl (T 1, 676, .inr (.inl f1)))]) hD hS hA [2, 3, 4] rfl
                refine va_callv (va_runV (As := [.int 675, .long x3, .long x4]) (rest := []) ⟨hx, hb, hml, hown, hts⟩ (c_X11_reduce l D T _ h2 p0 p1 (v0) (v1) (v4) n f0 f1 675 x3 x4 (by first | decide | omega)) (cwV 3 hts gX12_hold_X11_reduce rfl rfl rfl hv_X11_reduce ⟨Nat.le_of_ble_eq_true rfl, Nat.le_of_ble_eq_true rfl⟩) (pW_V (q := (RX11, TX11, 6)) (ci := 8) (q0 := 2) hP hE hD rfl rfl [2, 3, 4] (by decide +kernel) rfl rfl) rfl rfl hl.1 rfl (lv_room (Nat.le_of_ble_eq_true rfl)) dX12_hold_117 ⟨Nat.le_of_ble_eq_true rfl, Nat.le_of_ble_eq_true rfl⟩) hS (fun q _ h => hFc q h) hFc (fun u_47 t H1 locs ht hvm hr_46 hB hz1 hk1 hS => ?_)
                obtain ⟨f_48, f_49⟩ := u_47
                obtain ⟨hP1, hD1⟩ := hB
                rw [ht] at hP1
                obtain ⟨hP, hD⟩ := va_repl [(h0, .inr (9, fs0)), (h1, .inr (1, fs1)), (h2, .inr (8, [v0, v1, .ref p0, .ref p1, v4, .int n])), (p0, .inl (T 1, 676, .inr (.inl f_48))), (p1, .inl (T 1, 676, .inr (.inl f_49))), (h3, .inl (T 7, 4, .inr (.inr (.inr (.inr (va_up (va_up (va_up (va_up (fun _ => none) 0 (some t0)) 1 (some t1)) 2 (some t2)) 3 (some t3))))))), (t0, .inr (3, [.int (jz 0), .int (jn 0), .long (ja 0), .long (jb 0)])), (t1, .inr (3, [.int (jz 1), .int (jn 1), .long (ja 1), .long (jb 1)])), (t2, .inr (3, [.int x2, .int (x3.toInt32), .long (ja 2), .long (jb 2)])), (t3, .inr (3, [.int (jz 3), .int (jn 3), .long (ja 3), .long (jb 3)]))] hP hD [2, 3, 4] [2, 3, 4] rfl (by decide +kernel) rfl rfl rfl hk1 hP1
                clear hP1 hD1 hFc
                generalize H1 = H at hP hS ⊢
                refine lv_aload hx hb dX12_hold_120 (lv_at hl 1 rfl) ?_
                refine lv_aload_n hx hb dX12_hold_122 rfl (lv_at hl 2 rfl) ?_
                refine va_get (D := D) (ci := 9) (v := .ref h2) (C := RX12) (T := TX12) (N := 11) hx hb hts in_X12_hold_X12 hown hE.1 hP 0 rfl rfl 6 (by decide +kernel) (hts (.fieldLink RX12 43 "ClauseBook" "worth" "LClauseBook$Worth;") (List.mem_of_getElem? (i := 7) rfl)) (fun _ h9 => h9) e0_6 dX12_hold_123 ?_
                refine va_get (D := D) (ci := 8) (v := .ref p0) (C := RX11) (T := TX11) (N := 6) hx hb hts in_X12_hold_X11 hown hE.1 hP 2 rfl rfl 2 (by decide +kernel) (hts (.fieldLink RX12 202 "ClauseBook$Worth" "above" "[J") (List.mem_of_getElem? (i := 8) rfl)) (fun _ h9 => h9) rfl dX12_hold_126 ?_
                refine lv_sipush (v := 675) hx hb dX12_hold_129 (by decide +kernel) ?_
                refine va_lald hx hb hE.1 hP 3 1 rfl rfl (by unfold vp_in; decide) dX12_hold_132 ?_
                refine lv_topl (fun z_50 ez_50 => ?_)
                refine va_put (D := D) (ci := 3) (v := .long z_50) (ty := .long) (C := RX4) (T := TX4) (N := 4) hx hb hts in_X12_hold_X4 tyX4 tyX4_ok nmX4 hown hE.1 hP hD hS 8 rfl rfl 2 (by decide +kernel) (hts (.fieldLink RX12 365 "ClauseBook$Hand" "above" "J") (List.mem_of_getElem? (i := 9) rfl)) (fun _ h9 => h9) rfl (by decide +kernel) rfl rfl (Nat.le_of_ble_eq_true rfl) dX12_hold_133 (fun H locs hP hD hS => ?_)
                obtain ⟨hP, hD⟩ := wPD [(h0, .inr (9, fs0)), (h1, .inr (1, fs1)), (h2, .inr (8, [v0, v1, .ref p0, .ref p1, v4, .int n])), (p0, .inl (T 1, 676, .inr (.inl f_48))), (p1, .inl (T 1, 676, .inr (.inl f_49))), (h3, .inl (T 7, 4, .inr (.inr (.inr (.inr (va_up (va_up (va_up (va_up (fun _ => none) 0 (some t0)) 1 (some t1)) 2 (some t2)) 3 (some t3))))))), (t0, .inr (3, [.int (jz 0), .int (jn 0), .long (ja 0), .long (jb 0)])), (t1, .inr (3, [.int (jz 1), .int (jn 1), .long (ja 1), .long (jb 1)])), (t2, .inr (3, [.int x2, .int (x3.toInt32), .long z_50, .long (jb 2)])), (t3, .inr (3, [.int (jz 3), .int (jn 3), .long (ja 3), .long (jb 3)]))] hP hD rfl
                refine lv_aload hx hb dX12_hold_136 (lv_at hl 1 rfl) ?_
                refine lv_aload_n hx hb dX12_hold_138 rfl (lv_at hl 2 rfl) ?_
                refine va_get (D := D) (ci := 9) (v := .ref h2) (C := RX12) (T := TX12) (N := 11) hx hb hts in_X12_hold_X12 hown hE.1 hP 0 rfl rfl 6 (by decide +kernel) (hts (.fieldLink RX12 43 "ClauseBook" "worth" "LClauseBook$Worth;") (List.mem_of_getElem? (i := 7) rfl)) (fun _ h9 => h9) e0_6 dX12_hold_139 ?_
                refine va_get (D := D) (ci := 8) (v := .ref p1) (C := RX11) (T := TX11) (N := 6) hx hb hts in_X12_hold_X11 hown hE.1 hP 2 rfl rfl 3 (by decide +kernel) (hts (.fieldLink RX12 206 "ClauseBook$Worth" "below" "[J") (List.mem_of_getElem? (i := 10) rfl)) (fun _ h9 => h9) rfl dX12_hold_142 ?_
                refine lv_sipush (v := 675) hx hb dX12_hold_145 (by decide +kernel) ?_
                refine va_lald hx hb hE.1 hP 4 1 rfl rfl (by unfold vp_in; decide) dX12_hold_148 ?_
                refine lv_topl (fun z_51 ez_51 => ?_)
                refine va_put (D := D) (ci := 3) (v := .long z_51) (ty := .long) (C := RX4) (T := TX4) (N := 4) hx hb hts in_X12_hold_X4 tyX4 tyX4_ok nmX4 hown hE.1 hP hD hS 8 rfl rfl 3 (by decide +kernel) (hts (.fieldLink RX12 368 "ClauseBook$Hand" "below" "J") (List.mem_of_getElem? (i := 11) rfl)) (fun _ h9 => h9) rfl (by decide +kernel) rfl rfl (Nat.le_of_ble_eq_true rfl) dX12_hold_149 (fun H locs hP hD hS => ?_)
                obtain ⟨hP, hD⟩ := wPD [(h0, .inr (9, fs0)), (h1, .inr (1, fs1)), (h2, .inr (8, [v0, v1, .ref p0, .ref p1, v4, .int n])), (p0, .inl (T 1, 676, .inr (.inl f_48))), (p1, .inl (T 1, 676, .inr (.inl f_49))), (h3, .inl (T 7, 4, .inr (.inr (.inr (.inr (va_up (va_up (va_up (va_up (fun _ => none) 0 (some t0)) 1 (some t1)) 2 (some t2)) 3 (some t3))))))), (t0, .inr (3, [.int (jz 0), .int (jn 0), .long (ja 0), .long (jb 0)])), (t1, .inr (3, [.int (jz 1), .int (jn 1), .long (ja 1), .long (jb 1)])), (t2, .inr (3, [.int x2, .int (x3.toInt32), .long z_50, .long z_51])), (t3, .inr (3, [.int (jz 3), .int (jn 3), .long (ja 3), .long (jb 3)]))] hP hD rfl
                refine lv_iload hx hb dX12_hold_152 (lv_at hl 0 rfl) ?_
                exact W.iret hx hb hr (fun t ht hW => ⟨⟨_, (f_48, f_49, (fun k => [(jz 0), (jz 1), x2, (jz 3)].getD k 0), (fun k => [(jn 0), (jn 1), (x3.toInt32), (jn 3)].getD k 0), (fun k => [(ja 0), (ja 1), z_50, (ja 3)].getD k 0), (fun k => [(jb 0), (jb 1), z_51, (jb 3)].getD k 0)), rfl, (Or.inr ⟨⟨⟨by decide, by decide⟩, by omega, (fun h9 => by omega), (fun h9 => by omega)⟩, rfl, all4' ⟨(fun h9 => absurd h9 (by decide +kernel)), (fun _ => ⟨rfl, rfl⟩)⟩ ⟨(fun h9 => absurd h9 (by decide +kernel)), (fun _ => ⟨rfl, rfl⟩)⟩ ⟨(fun _ => ⟨rfl, (fun h9 => by first | rfl | (exfalso; omega))⟩), (fun h9 => absurd (by decide +kernel) h9)⟩ ⟨(fun h9 => absurd h9 (by decide +kernel)), (fun _ => ⟨rfl, rfl⟩)⟩⟩), by rw [ht]; exact hP.sub [0, 1, 2, 3, 4, 5, 6, 7, 8, 9] rfl, hD.sub [0, 1, 2, 3, 4, 5, 6, 7, 8, 9] (by decide +kernel) rfl⟩, hS.F ht⟩) hS.2.2 dX12_hold_154
          · refine va_aldq hx hb hE.1 hP 5 7 rfl rfl (by unfold vp_in; decide) dX12_hold_74 ?_
            refine W.eq (g2 := F0 m 75 ls [.ref t3]) rfl ?_
            refine lv_astore (lv' := [(7, .ref t3), (0, .ref h0), (1, .int 3), (2, .int x2), (3, .long x3), (5, .long x4)]) hx hb dX12_hold_75 hl (by decide +kernel) rfl (fun ls hl => ?_)
            refine lv_aload hx hb dX12_hold_77 (lv_at hl 0 rfl) ?_
            refine va_get (D := D) (ci := 3) (v := .int (jz 3)) (C := RX4) (T := TX4) (N := 4) hx hb hts in_X12_hold_X4 hown hE.1 hP 9 rfl rfl 0 (by decide +kernel) (hts (.fieldLink RX12 359 "ClauseBook$Hand" "sort" "I") (List.mem_of_getElem? (i := 5) rfl)) (fun _ h9 => h9) rfl dX12_hold_79 ?_
            refine lv_istore (lv' := [(8, .int (jz 3)), (7, .ref t3), (0, .ref h0), (1, .int 3), (2, .int x2), (3, .long x3), (5, .long x4)]) hx hb dX12_hold_82 hl (by decide +kernel) rfl (fun ls hl => ?_)
            refine lv_aload hx hb dX12_hold_84 (lv_at hl 1 rfl) ?_
            refine lv_iload_n hx hb dX12_hold_86 rfl (lv_at hl 4 rfl) ?_
            refine va_put (D := D) (ci := 3) (v := .int x2) (ty := .int) (C := RX4) (T := TX4) (N := 4) hx hb hts in_X12_hold_X4 tyX4 tyX4_ok nmX4 hown hE.1 hP hD hS 9 rfl rfl 0 (by decide +kernel) (hts (.fieldLink RX12 359 "ClauseBook$Hand" "sort" "I") (List.mem_of_getElem? (i := 5) rfl)) (fun _ h9 => h9) rfl (by decide +kernel) rfl rfl (Nat.le_of_ble_eq_true rfl) dX12_hold_87 (fun H locs hP hD hS => ?_)
            obtain ⟨hP, hD⟩ := wPD [(h0, .inr (9, fs0)), (h1, .inr (1, fs1)), (h2, .inr (8, [v0, v1, .ref p0, .ref p1, v4, .int n])), (p0, .inl (T 1, 676, .inr (.inl f0))), (p1, .inl (T 1, 676, .inr (.inl f1))), (h3, .inl (T 7, 4, .inr (.inr (.inr (.inr (va_up (va_up (va_up (va_up (fun _ => none) 0 (some t0)) 1 (some t1)) 2 (some t2)) 3 (some t3))))))), (t0, .inr (3, [.int (jz 0), .int (jn 0), .long (ja 0), .long (jb 0)])), (t1, .inr (3, [.int (jz 1), .int (jn 1), .long (ja 1), .long (jb 1)])), (t2, .inr (3, [.int (jz 2), .int (jn 2), .long (ja 2), .long (jb 2)])), (t3, .inr (3, [.int x2, .int (jn 3), .long (ja 3), .long (jb 3)]))] hP hD rfl
            refine lv_iload_n hx hb dX12_hold_90 rfl (lv_at hl 4 rfl) ?_
            refine lv_iconst (v := 1) hx hb dX12_hold_91 (by decide +kernel) ?_
            refine lv_icmp_ne (tgt := 102) hx hb dX12_hold_92 (by decide +kernel) (fun c_52 => ?_) (fun c_52 => ?_)
            · rw [fa_eq] at c_52
              try rw [ti_1] at c_52
              refine lv_iload_n hx hb dX12_hold_102 rfl (lv_at hl 4 rfl) ?_
              refine lv_iconst (v := 2) hx hb dX12_hold_103 (by decide +kernel) ?_
              refine lv_icmp_ne (tgt := 152) hx hb dX12_hold_104 (by decide +kernel) (fun c_53 => ?_) (fun c_53 => ?_)
              · rw [fa_eq] at c_53
                try rw [ti_2] at c_53
                refine lv_iload hx hb dX12_hold_152 (lv_at hl 0 rfl) ?_
                exact W.iret hx hb hr (fun t ht hW => ⟨⟨_, (f0, f1, (fun k => [(jz 0), (jz 1), (jz 2), x2].getD k 0), (fun k => [(jn 0), (jn 1), (jn 2), (jn 3)].getD k 0), (fun k => [(ja 0), (ja 1), (ja 2), (ja 3)].getD k 0), (fun k => [(jb 0), (jb 1), (jb 2), (jb 3)].getD k 0)), rfl, (Or.inr ⟨⟨⟨by decide, by decide⟩, by omega, (fun h9 => by omega), (fun h9 => by omega)⟩, rfl, all4' ⟨(fun h9 => absurd h9 (by decide +kernel)), (fun _ => ⟨rfl, rfl⟩)⟩ ⟨(fun h9 => absurd h9 (by decide +kernel)), (fun _ => ⟨rfl, rfl⟩)⟩ ⟨(fun h9 => absurd h9 (by decide +kernel)), (fun _ => ⟨rfl, rfl⟩)⟩ ⟨(fun _ => ⟨rfl, (fun h9 => by first | rfl | (exfalso; omega))⟩), (fun h9 => absurd (by decide +kernel) h9)⟩⟩), by rw [ht]; exact hP.sub [0, 1, 2, 3, 4, 5, 6, 7, 8, 9] rfl, hD.sub [0, 1, 2, 3, 4, 5, 6, 7, 8, 9] (by decide +kernel) rfl⟩, hS.F ht⟩) hS.2.2 dX12_hold_154
              · rw [fa_eq] at c_53
                try rw [ti_2] at c_53
                refine lv_aload_n hx hb dX12_hold_107 rfl (lv_at hl 2 rfl) ?_
                refine va_get (D := D) (ci := 9) (v := .ref h2) (C := RX12) (T := TX12) (N := 11) hx hb hts in_X12_hold_X12 hown hE.1 hP 0 rfl rfl 6 (by decide +kernel) (hts (.fieldLink RX12 43 "ClauseBook" "worth" "LClauseBook$Worth;") (List.mem_of_getElem? (i := 7) rfl)) (fun _ h9 => h9) e0_6 dX12_hold_108 ?_
                refine lv_sipush (v := 675) hx hb dX12_hold_111 (by decide +kernel) ?_
                refine lv_lload_n hx hb dX12_hold_114 rfl (lv_at hl 5 rfl) ?_
                refine lv_lload hx hb dX12_hold_115 (lv_at hl 6 rfl) ?_
                have hFc := va_free (wc := [(h2, .inr (8, [v0, v1, .ref p0, .ref p1, v4, .int n])), (p0, .inl (T 1, 676, .inr (.inl f0))), (p1, .inl (T 1, 676, .inr (.inl f1)))]) hD hS hA [2, 3, 4] rfl
                refine va_callv (va_runV (As := [.int 675, .long x3, .long x4]) (rest := []) ⟨hx, hb, hml, hown, hts⟩ (c_X11_reduce l D T _ h2 p0 p1 (v0) (v1) (v4) n f0 f1 675 x3 x4 (by first | decide | omega)) (cwV 3 hts gX12_hold_X11_reduce rfl rfl rfl hv_X11_reduce ⟨Nat.le_of_ble_eq_true rfl, Nat.le_of_ble_eq_true rfl⟩) (pW_V (q := (RX11, TX11, 6)) (ci := 8) (q0 := 2) hP hE hD rfl rfl [2, 3, 4] (by decide +kernel) rfl rfl) rfl rfl hl.1 rfl (lv_room (Nat.le_of_ble_eq_true rfl)) dX12_hold_117 ⟨Nat.le_of_ble_eq_true rfl, Nat.le_of_ble_eq_true rfl⟩) hS (fun q _ h => hFc q h) hFc (fun u_55 t H1 locs ht hvm hr_54 hB hz1 hk1 hS => ?_)
                obtain ⟨f_56, f_57⟩ := u_55
                obtain ⟨hP1, hD1⟩ := hB
                rw [ht] at hP1
                obtain ⟨hP, hD⟩ := va_repl [(h0, .inr (9, fs0)), (h1, .inr (1, fs1)), (h2, .inr (8, [v0, v1, .ref p0, .ref p1, v4, .int n])), (p0, .inl (T 1, 676, .inr (.inl f_56))), (p1, .inl (T 1, 676, .inr (.inl f_57))), (h3, .inl (T 7, 4, .inr (.inr (.inr (.inr (va_up (va_up (va_up (va_up (fun _ => none) 0 (some t0)) 1 (some t1)) 2 (some t2)) 3 (some t3))))))), (t0, .inr (3, [.int (jz 0), .int (jn 0), .long (ja 0), .long (jb 0)])), (t1, .inr (3, [.int (jz 1), .int (jn 1), .long (ja 1), .long (jb 1)])), (t2, .inr (3, [.int (jz 2), .int (jn 2), .long (ja 2), .long (jb 2)])), (t3, .inr (3, [.int x2, .int (jn 3), .long (ja 3), .long (jb 3)]))] hP hD [2, 3, 4] [2, 3, 4] rfl (by decide +kernel) rfl rfl rfl hk1 hP1
                clear hP1 hD1 hFc
                generalize H1 = H at hP hS ⊢
                refine lv_aload hx hb dX12_hold_120 (lv_at hl 1 rfl) ?_
                refine lv_aload_n hx hb dX12_hold_122 rfl (lv_at hl 2 rfl) ?_
                refine va_get (D := D) (ci := 9) (v := .ref h2) (C := RX12) (T := TX12) (N := 11) hx hb hts in_X12_hold_X12 hown hE.1 hP 0 rfl rfl 6 (by decide +kernel) (hts (.fieldLink RX12 43 "ClauseBook" "worth" "LClauseBook$Worth;") (List.mem_of_getElem? (i := 7) rfl)) (fun _ h9 => h9) e0_6 dX12_hold_123 ?_
                refine va_get (D := D) (ci := 8) (v := .ref p0) (C := RX11) (T := TX11) (N := 6) hx hb hts in_X12_hold_X11 hown hE.1 hP 2 rfl rfl 2 (by decide +kernel) (hts (.fieldLink RX12 202 "ClauseBook$Worth" "above" "[J") (List.mem_of_getElem? (i := 8) rfl)) (fun _ h9 => h9) rfl dX12_hold_126 ?_
                refine lv_sipush (v := 675) hx hb dX12_hold_129 (by decide +kernel) ?_
                refine va_lald hx hb hE.1 hP 3 1 rfl rfl (by unfold vp_in; decide) dX12_hold_132 ?_
                refine lv_topl (fun z_58 ez_58 => ?_)
                refine va_put (D := D) (ci := 3) (v := .long z_58) (ty := .long) (C := RX4) (T := TX4) (N := 4) hx hb hts in_X12_hold_X4 tyX4 tyX4_ok nmX4 hown hE.1 hP hD hS 9 rfl rfl 2 (by decide +kernel) (hts (.fieldLink RX12 365 "ClauseBook$Hand" "above" "J") (List.mem_of_getElem? (i := 9) rfl)) (fun _ h9 => h9) rfl (by decide +kernel) rfl rfl (Nat.le_of_ble_eq_true rfl) dX12_hold_133 (fun H locs hP hD hS => ?_)
                obtain ⟨hP, hD⟩ := wPD [(h0, .inr (9, fs0)), (h1, .inr (1, fs1)), (h2, .inr (8, [v0, v1, .ref p0, .ref p1, v4, .int n])), (p0, .inl (T 1, 676, .inr (.inl f_56))), (p1, .inl (T 1, 676, .inr (.inl f_57))), (h3, .inl (T 7, 4, .inr (.inr (.inr (.inr (va_up (va_up (va_up (va_up (fun _ => none) 0 (some t0)) 1 (some t1)) 2 (some t2)) 3 (some t3))))))), (t0, .inr (3, [.int (jz 0), .int (jn 0), .long (ja 0), .long (jb 0)])), (t1, .inr (3, [.int (jz 1), .int (jn 1), .long (ja 1), .long (jb 1)])), (t2, .inr (3, [.int (jz 2), .int (jn 2), .long (ja 2), .long (jb 2)])), (t3, .inr (3, [.int x2, .int (jn 3), .long z_58, .long (jb 3)]))] hP hD rfl
                refine lv_aload hx hb dX12_hold_136 (lv_at hl 1 rfl) ?_
                refine lv_aload_n hx hb dX12_hold_138 rfl (lv_at hl 2 rfl) ?_
                refine va_get (D := D) (ci := 9) (v := .ref h2) (C := RX12) (T := TX12) (N := 11) hx hb hts in_X12_hold_X12 hown hE.1 hP 0 rfl rfl 6 (by decide +kernel) (hts (.fieldLink RX12 43 "ClauseBook" "worth" "LClauseBook$Worth;") (List.mem_of_getElem? (i := 7) rfl)) (fun _ h9 => h9) e0_6 dX12_hold_139 ?_
                refine va_get (D := D) (ci := 8) (v := .ref p1) (C := RX11) (T := TX11) (N := 6) hx hb hts in_X12_hold_X11 hown hE.1 hP 2 rfl rfl 3 (by decide +kernel) (hts (.fieldLink RX12 206 "ClauseBook$Worth" "below" "[J") (List.mem_of_getElem? (i := 10) rfl)) (fun _ h9 => h9) rfl dX12_hold_142 ?_
                refine lv_sipush (v := 675) hx hb dX12_hold_145 (by decide +kernel) ?_
                refine va_lald hx hb hE.1 hP 4 1 rfl rfl (by unfold vp_in; decide) dX12_hold_148 ?_
                refine lv_topl (fun z_59 ez_59 => ?_)
                refine va_put (D := D) (ci := 3) (v := .long z_59) (ty := .long) (C := RX4) (T := TX4) (N := 4) hx hb hts in_X12_hold_X4 tyX4 tyX4_ok nmX4 hown hE.1 hP hD hS 9 rfl rfl 3 (by decide +kernel) (hts (.fieldLink RX12 368 "ClauseBook$Hand" "below" "J") (List.mem_of_getElem? (i := 11) rfl)) (fun _ h9 => h9) rfl (by decide +kernel) rfl rfl (Nat.le_of_ble_eq_true rfl) dX12_hold_149 (fun H locs hP hD hS => ?_)
                obtain ⟨hP, hD⟩ := wPD [(h0, .inr (9, fs0)), (h1, .inr (1, fs1)), (h2, .inr (8, [v0, v1, .ref p0, .ref p1, v4, .int n])), (p0, .inl (T 1, 676, .inr (.inl f_56))), (p1, .inl (T 1, 676, .inr (.inl f_57))), (h3, .inl (T 7, 4, .inr (.inr (.inr (.inr (va_up (va_up (va_up (va_up (fun _ => none) 0 (some t0)) 1 (some t1)) 2 (some t2)) 3 (some t3))))))), (t0, .inr (3, [.int (jz 0), .int (jn 0), .long (ja 0), .long (jb 0)])), (t1, .inr (3, [.int (jz 1), .int (jn 1), .long (ja 1), .long (jb 1)])), (t2, .inr (3, [.int (jz 2), .int (jn 2), .long (ja 2), .long (jb 2)])), (t3, .inr (3, [.int x2, .int (jn 3), .long z_58, .long z_59]))] hP hD rfl
                refine lv_iload hx hb dX12_hold_152 (lv_at hl 0 rfl) ?_
                exact W.iret hx hb hr (fun t ht hW => ⟨⟨_, (f_56, f_57, (fun k => [(jz 0), (jz 1), (jz 2), x2].getD k 0), (fun k => [(jn 0), (jn 1), (jn 2), (jn 3)].getD k 0), (fun k => [(ja 0), (ja 1), (ja 2), z_58].getD k 0), (fun k => [(jb 0), (jb 1), (jb 2), z_59].getD k 0)), rfl, (Or.inr ⟨⟨⟨by decide, by decide⟩, by omega, (fun h9 => by omega), (fun h9 => by omega)⟩, rfl, all4' ⟨(fun h9 => absurd h9 (by decide +kernel)), (fun _ => ⟨rfl, rfl⟩)⟩ ⟨(fun h9 => absurd h9 (by decide +kernel)), (fun _ => ⟨rfl, rfl⟩)⟩ ⟨(fun h9 => absurd h9 (by decide +kernel)), (fun _ => ⟨rfl, rfl⟩)⟩ ⟨(fun _ => ⟨rfl, (fun h9 => by first | rfl | (exfalso; omega))⟩), (fun h9 => absurd (by decide +kernel) h9)⟩⟩), by rw [ht]; exact hP.sub [0, 1, 2, 3, 4, 5, 6, 7, 8, 9] rfl, hD.sub [0, 1, 2, 3, 4, 5, 6, 7, 8, 9] (by decide +kernel) rfl⟩, hS.F ht⟩) hS.2.2 dX12_hold_154
            · rw [fa_eq] at c_52
              try rw [ti_1] at c_52
              refine lv_aload hx hb dX12_hold_95 (lv_at hl 1 rfl) ?_
              refine lv_lload_n hx hb dX12_hold_97 rfl (lv_at hl 5 rfl) ?_
              refine lv_l2i hx hb dX12_hold_98 rfl ?_
              refine va_put (D := D) (ci := 3) (v := .int (x3.toInt32)) (ty := .int) (C := RX4) (T := TX4) (N := 4) hx hb hts in_X12_hold_X4 tyX4 tyX4_ok nmX4 hown hE.1 hP hD hS 9 rfl rfl 1 (by decide +kernel) (hts (.fieldLink RX12 360 "ClauseBook$Hand" "number" "I") (List.mem_of_getElem? (i := 6) rfl)) (fun _ h9 => h9) rfl (by decide +kernel) rfl rfl (Nat.le_of_ble_eq_true rfl) dX12_hold_99 (fun H locs hP hD hS => ?_)
              obtain ⟨hP, hD⟩ := wPD [(h0, .inr (9, fs0)), (h1, .inr (1, fs1)), (h2, .inr (8, [v0, v1, .ref p0, .ref p1, v4, .int n])), (p0, .inl (T 1, 676, .inr (.inl f0))), (p1, .inl (T 1, 676, .inr (.inl f1))), (h3, .inl (T 7, 4, .inr (.inr (.inr (.inr (va_up (va_up (va_up (va_up (fun _ => none) 0 (some t0)) 1 (some t1)) 2 (some t2)) 3 (some t3))))))), (t0, .inr (3, [.int (jz 0), .int (jn 0), .long (ja 0), .long (jb 0)])), (t1, .inr (3, [.int (jz 1), .int (jn 1), .long (ja 1), .long (jb 1)])), (t2, .inr (3, [.int (jz 2), .int (jn 2), .long (ja 2), .long (jb 2)])), (t3, .inr (3, [.int x2, .int (x3.toInt32), .long (ja 3), .long (jb 3)]))] hP hD rfl
              refine lv_iload_n hx hb dX12_hold_102 rfl (lv_at hl 4 rfl) ?_
              refine lv_iconst (v := 2) hx hb dX12_hold_103 (by decide +kernel) ?_
              refine lv_icmp_ne (tgt := 152) hx hb dX12_hold_104 (by decide +kernel) (fun c_60 => ?_) (fun c_60 => ?_)
              · rw [fa_eq] at c_60
                try rw [ti_2] at c_60
                refine lv_iload hx hb dX12_hold_152 (lv_at hl 0 rfl) ?_
                exact W.iret hx hb hr (fun t ht hW => ⟨⟨_, (f0, f1, (fun k => [(jz 0), (jz 1), (jz 2), x2].getD k 0), (fun k => [(jn 0), (jn 1), (jn 2), (x3.toInt32)].getD k 0), (fun k => [(ja 0), (ja 1), (ja 2), (ja 3)].getD k 0), (fun k => [(jb 0), (jb 1), (jb 2), (jb 3)].getD k 0)), rfl, (Or.inr ⟨⟨⟨by decide, by decide⟩, by omega, (fun h9 => by omega), (fun h9 => by omega)⟩, rfl, all4' ⟨(fun h9 => absurd h9 (by decide +kernel)), (fun _ => ⟨rfl, rfl⟩)⟩ ⟨(fun h9 => absurd h9 (by decide +kernel)), (fun _ => ⟨rfl, rfl⟩)⟩ ⟨(fun h9 => absurd h9 (by decide +kernel)), (fun _ => ⟨rfl, rfl⟩)⟩ ⟨(fun _ => ⟨rfl, (fun h9 => by first | rfl | (exfalso; omega))⟩), (fun h9 => absurd (by decide +kernel) h9)⟩⟩), by rw [ht]; exact hP.sub [0, 1, 2, 3, 4, 5, 6, 7, 8, 9] rfl, hD.sub [0, 1, 2, 3, 4, 5, 6, 7, 8, 9] (by decide +kernel) rfl⟩, hS.F ht⟩) hS.2.2 dX12_hold_154
              · rw [fa_eq] at c_60
                try rw [ti_2] at c_60
                refine lv_aload_n hx hb dX12_hold_107 rfl (lv_at hl 2 rfl) ?_
                refine va_get (D := D) (ci := 9) (v := .ref h2) (C := RX12) (T := TX12) (N := 11) hx hb hts in_X12_hold_X12 hown hE.1 hP 0 rfl rfl 6 (by decide +kernel) (hts (.fieldLink RX12 43 "ClauseBook" "worth" "LClauseBook$Worth;") (List.mem_of_getElem? (i := 7) rfl)) (fun _ h9 => h9) e0_6 dX12_hold_108 ?_
                refine lv_sipush (v := 675) hx hb dX12_hold_111 (by decide +kernel) ?_
                refine lv_lload_n hx hb dX12_hold_114 rfl (lv_at hl 5 rfl) ?_
                refine lv_lload hx hb dX12_hold_115 (lv_at hl 6 rfl) ?_
                have hFc := va_free (wc := [(h2, .inr (8, [v0, v1, .ref p0, .ref p1, v4, .int n])), (p0, .inl (T 1, 676, .inr (.inl f0))), (p1, .inl (T 1, 676, .inr (.inl f1)))]) hD hS hA [2, 3, 4] rfl
                refine va_callv (va_runV (As := [.int 675, .long x3, .long x4]) (rest := []) ⟨hx, hb, hml, hown, hts⟩ (c_X11_reduce l D T _ h2 p0 p1 (v0) (v1) (v4) n f0 f1 675 x3 x4 (by first | decide | omega)) (cwV 3 hts gX12_hold_X11_reduce rfl rfl rfl hv_X11_reduce ⟨Nat.le_of_ble_eq_true rfl, Nat.le_of_ble_eq_true rfl⟩) (pW_V (q := (RX11, TX11, 6)) (ci := 8) (q0 := 2) hP hE hD rfl rfl [2, 3, 4] (by decide +kernel) rfl rfl) rfl rfl hl.1 rfl (lv_room (Nat.le_of_ble_eq_true rfl)) dX12_hold_117 ⟨Nat.le_of_ble_eq_true rfl, Nat.le_of_ble_eq_true rfl⟩) hS (fun q _ h => hFc q h) hFc (fun u_62 t H1 locs ht hvm hr_61 hB hz1 hk1 hS => ?_)
                obtain ⟨f_63, f_64⟩ := u_62
                obtain ⟨hP1, hD1⟩ := hB
                rw [ht] at hP1
                obtain ⟨hP, hD⟩ := va_repl [(h0, .inr (9, fs0)), (h1, .inr (1, fs1)), (h2, .inr (8, [v0, v1, .ref p0, .ref p1, v4, .int n])), (p0, .inl (T 1, 676, .inr (.inl f_63))), (p1, .inl (T 1, 676, .inr (.inl f_64))), (h3, .inl (T 7, 4, .inr (.inr (.inr (.inr (va_up (va_up (va_up (va_up (fun _ => none) 0 (some t0)) 1 (some t1)) 2 (some t2)) 3 (some t3))))))), (t0, .inr (3, [.int (jz 0), .int (jn 0), .long (ja 0), .long (jb 0)])), (t1, .inr (3, [.int (jz 1), .int (jn 1), .long (ja 1), .long (jb 1)])), (t2, .inr (3, [.int (jz 2), .int (jn 2), .long (ja 2), .long (jb 2)])), (t3, .inr (3, [.int x2, .int (x3.toInt32), .long (ja 3), .long (jb 3)]))] hP hD [2, 3, 4] [2, 3, 4] rfl (by decide +kernel) rfl rfl rfl hk1 hP1
                clear hP1 hD1 hFc
                generalize H1 = H at hP hS ⊢
                refine lv_aload hx hb dX12_hold_120 (lv_at hl 1 rfl) ?_
                refine lv_aload_n hx hb dX12_hold_122 rfl (lv_at hl 2 rfl) ?_
                refine va_get (D := D) (ci := 9) (v := .ref h2) (C := RX12) (T := TX12) (N := 11) hx hb hts in_X12_hold_X12 hown hE.1 hP 0 rfl rfl 6 (by decide +kernel) (hts (.fieldLink RX12 43 "ClauseBook" "worth" "LClauseBook$Worth;") (List.mem_of_getElem? (i := 7) rfl)) (fun _ h9 => h9) e0_6 dX12_hold_123 ?_
                refine va_get (D := D) (ci := 8) (v := .ref p0) (C := RX11) (T := TX11) (N := 6) hx hb hts in_X12_hold_X11 hown hE.1 hP 2 rfl rfl 2 (by decide +kernel) (hts (.fieldLink RX12 202 "ClauseBook$Worth" "above" "[J") (List.mem_of_getElem? (i := 8) rfl)) (fun _ h9 => h9) rfl dX12_hold_126 ?_
                refine lv_sipush (v := 675) hx hb dX12_hold_129 (by decide +kernel) ?_
                refine va_lald hx hb hE.1 hP 3 1 rfl rfl (by unfold vp_in; decide) dX12_hold_132 ?_
                refine lv_topl (fun z_65 ez_65 => ?_)
                refine va_put (D := D) (ci := 3) (v := .long z_65) (ty := .long) (C := RX4) (T := TX4) (N := 4) hx hb hts in_X12_hold_X4 tyX4 tyX4_ok nmX4 hown hE.1 hP hD hS 9 rfl rfl 2 (by decide +kernel) (hts (.fieldLink RX12 365 "ClauseBook$Hand" "above" "J") (List.mem_of_getElem? (i := 9) rfl)) (fun _ h9 => h9) rfl (by decide +kernel) rfl rfl (Nat.le_of_ble_eq_true rfl) dX12_hold_133 (fun H locs hP hD hS => ?_)
                obtain ⟨hP, hD⟩ := wPD [(h0, .inr (9, fs0)), (h1, .inr (1, fs1)), (h2, .inr (8, [v0, v1, .ref p0, .ref p1, v4, .int n])), (p0, .inl (T 1, 676, .inr (.inl f_63))), (p1, .inl (T 1, 676, .inr (.inl f_64))), (h3, .inl (T 7, 4, .inr (.inr (.inr (.inr (va_up (va_up (va_up (va_up (fun _ => none) 0 (some t0)) 1 (some t1)) 2 (some t2)) 3 (some t3))))))), (t0, .inr (3, [.int (jz 0), .int (jn 0), .long (ja 0), .long (jb 0)])), (t1, .inr (3, [.int (jz 1), .int (jn 1), .long (ja 1), .long (jb 1)])), (t2, .inr (3, [.int (jz 2), .int (jn 2), .long (ja 2), .long (jb 2)])), (t3, .inr (3, [.int x2, .int (x3.toInt32), .long z_65, .long (jb 3)]))] hP hD rfl
                refine lv_aload hx hb dX12_hold_136 (lv_at hl 1 rfl) ?_
                refine lv_aload_n hx hb dX12_hold_138 rfl (lv_at hl 2 rfl) ?_
                refine va_get (D := D) (ci := 9) (v := .ref h2) (C := RX12) (T := TX12) (N := 11) hx hb hts in_X12_hold_X12 hown hE.1 hP 0 rfl rfl 6 (by decide +kernel) (hts (.fieldLink RX12 43 "ClauseBook" "worth" "LClauseBook$Worth;") (List.mem_of_getElem? (i := 7) rfl)) (fun _ h9 => h9) e0_6 dX12_hold_139 ?_
                refine va_get (D := D) (ci := 8) (v := .ref p1) (C := RX11) (T := TX11) (N := 6) hx hb hts in_X12_hold_X11 hown hE.1 hP 2 rfl rfl 3 (by decide +kernel) (hts (.fieldLink RX12 206 "ClauseBook$Worth" "below" "[J") (List.mem_of_getElem? (i := 10) rfl)) (fun _ h9 => h9) rfl dX12_hold_142 ?_
                refine lv_sipush (v := 675) hx hb dX12_hold_145 (by decide +kernel) ?_
                refine va_lald hx hb hE.1 hP 4 1 rfl rfl (by unfold vp_in; decide) dX12_hold_148 ?_
                refine lv_topl (fun z_66 ez_66 => ?_)
                refine va_put (D := D) (ci := 3) (v := .long z_66) (ty := .long) (C := RX4) (T := TX4) (N := 4) hx hb hts in_X12_hold_X4 tyX4 tyX4_ok nmX4 hown hE.1 hP hD hS 9 rfl rfl 3 (by decide +kernel) (hts (.fieldLink RX12 368 "ClauseBook$Hand" "below" "J") (List.mem_of_getElem? (i := 11) rfl)) (fun _ h9 => h9) rfl (by decide +kernel) rfl rfl (Nat.le_of_ble_eq_true rfl) dX12_hold_149 (fun H locs hP hD hS => ?_)
                obtain ⟨hP, hD⟩ := wPD [(h0, .inr (9, fs0)), (h1, .inr (1, fs1)), (h2, .inr (8, [v0, v1, .ref p0, .ref p1, v4, .int n])), (p0, .inl (T 1, 676, .inr (.inl f_63))), (p1, .inl (T 1, 676, .inr (.inl f_64))), (h3, .inl (T 7, 4, .inr (.inr (.inr (.inr (va_up (va_up (va_up (va_up (fun _ => none) 0 (some t0)) 1 (some t1)) 2 (some t2)) 3 (some t3))))))), (t0, .inr (3, [.int (jz 0), .int (jn 0), .long (ja 0), .long (jb 0)])), (t1, .inr (3, [.int (jz 1), .int (jn 1), .long (ja 1), .long (jb 1)])), (t2, .inr (3, [.int (jz 2), .int (jn 2), .long (ja 2), .long (jb 2)])), (t3, .inr (3, [.int x2, .int (x3.toInt32), .long z_65, .long z_66]))] hP hD rfl
                refine lv_iload hx hb dX12_hold_152 (lv_at hl 0 rfl) ?_
                exact W.iret hx hb hr (fun t ht hW => ⟨⟨_, (f_63, f_64, (fun k => [(jz 0), (jz 1), (jz 2), x2].getD k 0), (fun k => [(jn 0), (jn 1), (jn 2), (x3.toInt32)].getD k 0), (fun k => [(ja 0), (ja 1), (ja 2), z_65].getD k 0), (fun k => [(jb 0), (jb 1), (jb 2), z_66].getD k 0)), rfl, (Or.inr ⟨⟨⟨by decide, by decide⟩, by omega, (fun h9 => by omega), (fun h9 => by omega)⟩, rfl, all4' ⟨(fun h9 => absurd h9 (by decide +kernel)), (fun _ => ⟨rfl, rfl⟩)⟩ ⟨(fun h9 => absurd h9 (by decide +kernel)), (fun _ => ⟨rfl, rfl⟩)⟩ ⟨(fun h9 => absurd h9 (by decide +kernel)), (fun _ => ⟨rfl, rfl⟩)⟩ ⟨(fun _ => ⟨rfl, (fun h9 => by first | rfl | (exfalso; omega))⟩), (fun h9 => absurd (by decide +kernel) h9)⟩⟩), by rw [ht]; exact hP.sub [0, 1, 2, 3, 4, 5, 6, 7, 8, 9] rfl, hD.sub [0, 1, 2, 3, 4, 5, 6, 7, 8, 9] (by decide +kernel) rfl⟩, hS.F ht⟩) hS.2.2 dX12_hold_154
        · rw [fa_eq] at c_6
          try rw [ti_2] at c_6
          refine lv_lload hx hb dX12_hold_51 (lv_at hl 4 rfl) ?_
          refine lv_lconst (v := 1) hx hb dX12_hold_53 (by decide +kernel) ?_
          refine W.lcmp hx hb dX12_hold_54 ?_
          refine lv_if_lt (tgt := 66) hx hb dX12_hold_55 (by decide +kernel) (fun c_67 => ?_) (fun c_67 => ?_)
          · rw [lcmp_lt] at c_67
            try rw [tl_1] at c_67
            refine lv_bipush (v := (-2)) hx hb dX12_hold_66 (by decide +kernel) ?_
            exact W.iret hx hb hr (fun t ht hW => ⟨⟨_, (f0, f1, (fun k => [(jz 0), (jz 1), (jz 2), (jz 3)].getD k 0), (fun k => [(jn 0), (jn 1), (jn 2), (jn 3)].getD k 0), (fun k => [(ja 0), (ja 1), (ja 2), (ja 3)].getD k 0), (fun k => [(jb 0), (jb 1), (jb 2), (jb 3)].getD k 0)), rfl, (Or.inl ⟨(fun h9 => by obtain ⟨h1, h2, h3, h4⟩ := h9; first | (clear h3 h4; omega) | (have h5 := h3 (by clear h3 h4; omega); clear h3 h4; omega) | (have h5 := h4 (by clear h3 h4; omega); clear h3 h4; omega)), (by decide +kernel), all4' ⟨rfl, rfl⟩ ⟨rfl, rfl⟩ ⟨rfl, rfl⟩ ⟨rfl, rfl⟩⟩), by rw [ht]; exact hP.sub [0, 1, 2, 3, 4, 5, 6, 7, 8, 9] rfl, hD.sub [0, 1, 2, 3, 4, 5, 6, 7, 8, 9] (by decide +kernel) rfl⟩, hS.F ht⟩) hS.2.2 dX12_hold_68
          · rw [lcmp_lt] at c_67
            try rw [tl_1] at c_67
            refine lv_lload_n hx hb dX12_hold_58 rfl (lv_at hl 3 rfl) ?_
            refine lv_ldc2 (v := (-9223372036854775808)) hx hb hown (hts (.constantLong RX12 357 (-9223372036854775808)) (List.mem_of_getElem? (i := 3) rfl)) dX12_hold_59 ?_
            refine W.lcmp hx hb dX12_hold_62 ?_
            refine lv_if_ne (tgt := 69) hx hb dX12_hold_63 (by decide +kernel) (fun c_68 => ?_) (fun c_68 => ?_)
            · rw [lcmp_eq] at c_68
              try rw [tl_min] at c_68
              refine lv_aload_n hx hb dX12_hold_69 rfl (lv_at hl 0 rfl) ?_
              refine va_get (D := D) (ci := 9) (v := .ref h3) (C := RX12) (T := TX12) (N := 11) hx hb hts in_X12_hold_X12 hown hE.1 hP 0 rfl rfl 10 (by decide +kernel) (hts (.fieldLink RX12 71 "ClauseBook" "hands" "[LClauseBook$Hand;") (List.mem_of_getElem? (i := 4) rfl)) (fun _ h9 => h9) e0_10 dX12_hold_70 ?_
              refine lv_iload_n hx hb dX12_hold_73 rfl (lv_at hl 1 rfl) ?_
              rcases in4 (x := x1) (by omega) with rfl | rfl | rfl | rfl
              · refine va_aldq hx hb hE.1 hP 5 7 rfl rfl (by unfold vp_in; decide) dX12_hold_74 ?_
                refine W.eq (g2 := F0 m 75 ls [.ref t0]) rfl ?_
                refine lv_astore (lv' := [(7, .ref t0), (0, .ref h0), (1, .int 0), (2, .int x2), (3, .long x3), (5, .long x4)]) hx hb dX12_hold_75 hl (by decide +kernel) rfl (fun ls hl => ?_)
                refine lv_aload hx hb dX12_hold_77 (lv_at hl 0 rfl) ?_
                refine va_get (D := D) (ci := 3) (v := .int (jz 0)) (C := RX4) (T := TX4) (N := 4) hx hb hts in_X12_hold_X4 hown hE.1 hP 6 rfl rfl 0 (by decide +kernel) (hts (.fieldLink RX12 359 "ClauseBook$Hand" "sort" "I") (List.mem_of_getElem? (i := 5) rfl)) (fun _ h9 => h9) rfl dX12_hold_79 ?_
                refine lv_istore (lv' := [(8, .int (jz 0)), (7, .ref t0), (0, .ref h0), (1, .int 0), (2, .int x2), (3, .long x3), (5, .long x4)]) hx hb dX12_hold_82 hl (by decide +kernel) rfl (fun ls hl => ?_)
                refine lv_aload hx hb dX12_hold_84 (lv_at hl 1 rfl) ?_
                refine lv_iload_n hx hb dX12_hold_86 rfl (lv_at hl 4 rfl) ?_
                refine va_put (D := D) (ci := 3) (v := .int x2) (ty := .int) (C := RX4) (T := TX4) (N := 4) hx hb hts in_X12_hold_X4 tyX4 tyX4_ok nmX4 hown hE.1 hP hD hS 6 rfl rfl 0 (by decide +kernel) (hts (.fieldLink RX12 359 "ClauseBook$Hand" "sort" "I") (List.mem_of_getElem? (i := 5) rfl)) (fun _ h9 => h9) rfl (by decide +kernel) rfl rfl (Nat.le_of_ble_eq_true rfl) dX12_hold_87 (fun H locs hP hD hS => ?_)
                obtain ⟨hP, hD⟩ := wPD [(h0, .inr (9, fs0)), (h1, .inr (1, fs1)), (h2, .inr (8, [v0, v1, .ref p0, .ref p1, v4, .int n])), (p0, .inl (T 1, 676, .inr (.inl f0))), (p1, .inl (T 1, 676, .inr (.inl f1))), (h3, .inl (T 7, 4, .inr (.inr (.inr (.inr (va_up (va_up (va_up (va_up (fun _ => none) 0 (some t0)) 1 (some t1)) 2 (some t2)) 3 (some t3))))))), (t0, .inr (3, [.int x2, .int (jn 0), .long (ja 0), .long (jb 0)])), (t1, .inr (3, [.int (jz 1), .int (jn 1), .long (ja 1), .long (jb 1)])), (t2, .inr (3, [.int (jz 2), .int (jn 2), .long (ja 2), .long (jb 2)])), (t3, .inr (3, [.int (jz 3), .int (jn 3), .long (ja 3), .long (jb 3)]))] hP hD rfl
                refine lv_iload_n hx hb dX12_hold_90 rfl (lv_at hl 4 rfl) ?_
                refine lv_iconst (v := 1) hx hb dX12_hold_91 (by decide +kernel) ?_
                refine lv_icmp_ne (tgt := 102) hx hb dX12_hold_92 (by decide +kernel) (fun c_69 => ?_) (fun c_69 => ?_)
                · rw [fa_eq] at c_69
                  try rw [ti_1] at c_69
                  refine lv_iload_n hx hb dX12_hold_102 rfl (lv_at hl 4 rfl) ?_
                  refine lv_iconst (v := 2) hx hb dX12_hold_103 (by decide +kernel) ?_
                  refine lv_icmp_ne (tgt := 152) hx hb dX12_hold_104 (by decide +kernel) (fun c_70 => ?_) (fun c_70 => ?_)
                  · rw [fa_eq] at c_70
                    try rw [ti_2] at c_70
                    refine lv_iload hx hb dX12_hold_152 (lv_at hl 0 rfl) ?_
                    exact W.iret hx hb hr (fun t ht hW => ⟨⟨_, (f0, f1, (fun k => [x2, (jz 1), (jz 2), (jz 3)].getD k 0), (fun k => [(jn 0), (jn 1), (jn 2), (jn 3)].getD k 0), (fun k => [(ja 0), (ja 1), (ja 2), (ja 3)].getD k 0), (fun k => [(jb 0), (jb 1), (jb 2), (jb 3)].getD k 0)), rfl, (Or.inr ⟨⟨⟨by decide, by decide⟩, by omega, (fun h9 => by omega), (fun h9 => by omega)⟩, rfl, all4' ⟨(fun _ => ⟨rfl, (fun h9 => by first | rfl | (exfalso; omega))⟩), (fun h9 => absurd (by decide +kernel) h9)⟩ ⟨(fun h9 => absurd h9 (by decide +kernel)), (fun _ => ⟨rfl, rfl⟩)⟩ ⟨(fun h9 => absurd h9 (by decide +kernel)), (fun _ => ⟨rfl, rfl⟩)⟩ ⟨(fun h9 => absurd h9 (by decide +kernel)), (fun _ => ⟨rfl, rfl⟩)⟩⟩), by rw [ht]; exact hP.sub [0, 1, 2, 3, 4, 5, 6, 7, 8, 9] rfl, hD.sub [0, 1, 2, 3, 4, 5, 6, 7, 8, 9] (by decide +kernel) rfl⟩, hS.F ht⟩) hS.2.2 dX12_hold_154
                  · rw [fa_eq] at c_70
                    try rw [ti_2] at c_70
                    refine lv_aload_n hx hb dX12_hold_107 rfl (lv_at hl 2 rfl) ?_
                    refine va_get (D := D) (ci := 9) (v := .ref h2) (C := RX12) (T := TX12) (N := 11) hx hb hts in_X12_hold_X12 hown hE.1 hP 0 rfl rfl 6 (by decide +kernel) (hts (.fieldLink RX12 43 "ClauseBook" "worth" "LClauseBook$Worth;") (List.mem_of_getElem? (i := 7) rfl)) (fun _ h9 => h9) e0_6 dX12_hold_108 ?_
                    refine lv_sipush (v := 675) hx hb dX12_hold_111 (by decide +kernel) ?_
                    refine lv_lload_n hx hb dX12_hold_114 rfl (lv_at hl 5 rfl) ?_
                    refine lv_lload hx hb dX12_hold_115 (lv_at hl 6 rfl) ?_
                    have hFc := va_free (wc := [(h2, .inr (8, [v0, v1, .ref p0, .ref p1, v4, .int n])), (p0, .inl (T 1, 676, .inr (.inl f0))), (p1, .inl (T 1, 676, .inr (.inl f1)))]) hD hS hA [2, 3, 4] rfl
                    refine va_callv (va_runV (As := [.int 675, .long x3, .long x4]) (rest := []) ⟨hx, hb, hml, hown, hts⟩ (c_X11_reduce l D T _ h2 p0 p1 (v0) (v1) (v4) n f0 f1 675 x3 x4 (by first | decide | omega)) (cwV 3 hts gX12_hold_X11_reduce rfl rfl rfl hv_X11_reduce ⟨Nat.le_of_ble_eq_true rfl, Nat.le_of_ble_eq_true rfl⟩) (pW_V (q := (RX11, TX11, 6)) (ci := 8) (q0 := 2) hP hE hD rfl rfl [2, 3, 4] (by decide +kernel) rfl rfl) rfl rfl hl.1 rfl (lv_room (Nat.le_of_ble_eq_true rfl)) dX12_hold_117 ⟨Nat.le_of_ble_eq_true rfl, Nat.le_of_ble_eq_true rfl⟩) hS (fun q _ h => hFc q h) hFc (fun u_72 t H1 locs ht hvm hr_71 hB hz1 hk1 hS => ?_)
                    obtain ⟨f_73, f_74⟩ := u_72
                    obtain ⟨hP1, hD1⟩ := hB
                    rw [ht] at hP1
                    obtain ⟨hP, hD⟩ := va_repl [(h0, .inr (9, fs0)), (h1, .inr (1, fs1)), (h2, .inr (8, [v0, v1, .ref p0, .ref p1, v4, .int n])), (p0, .inl (T 1, 676, .inr (.inl f_73))), (p1, .inl (T 1, 676, .inr (.inl f_74))), (h3, .inl (T 7, 4, .inr (.inr (.inr (.inr (va_up (va_up (va_up (va_up (fun _ => none) 0 (some t0)) 1 (some t1)) 2 (some t2)) 3 (some t3))))))), (t0, .inr (3, [.int x2, .int (jn 0), .long (ja 0), .long (jb 0)])), (t1, .inr (3, [.int (jz 1), .int (jn 1), .long (ja 1), .long (jb 1)])), (t2, .inr (3, [.int (jz 2), .int (jn 2), .long (ja 2), .long (jb 2)])), (t3, .inr (3, [.int (jz 3), .int (jn 3), .long (ja 3), .long (jb 3)]))] hP hD [2, 3, 4] [2, 3, 4] rfl (by decide +kernel) rfl rfl rfl hk1 hP1
                    clear hP1 hD1 hFc
                    generalize H1 = H at hP hS ⊢
                    refine lv_aload hx hb dX12_hold_120 (lv_at hl 1 rfl) ?_
                    refine lv_aload_n hx hb dX12_hold_122 rfl (lv_at hl 2 rfl) ?_
                    refine va_get (D := D) (ci := 9) (v := .ref h2) (C := RX12) (T := TX12) (N := 11) hx hb hts in_X12_hold_X12 hown hE.1 hP 0 rfl rfl 6 (by decide +kernel) (hts (.fieldLink RX12 43 "ClauseBook" "worth" "LClauseBook$Worth;") (List.mem_of_getElem? (i := 7) rfl)) (fun _ h9 => h9) e0_6 dX12_hold_123 ?_
                    refine va_get (D := D) (ci := 8) (v := .ref p0) (C := RX11) (T := TX11) (N := 6) hx hb hts in_X12_hold_X11 hown hE.1 hP 2 rfl rfl 2 (by decide +kernel) (hts (.fieldLink RX12 202 "ClauseBook$Worth" "above" "[J") (List.mem_of_getElem? (i := 8) rfl)) (fun _ h9 => h9) rfl dX12_hold_126 ?_
                    refine lv_sipush (v := 675) hx hb dX12_hold_129 (by decide +kernel) ?_
                    refine va_lald hx hb hE.1 hP 3 1 rfl rfl (by unfold vp_in; decide) dX12_hold_132 ?_
                    refine lv_topl (fun z_75 ez_75 => ?_)
                    refine va_put (D := D) (ci := 3) (v := .long z_75) (ty := .long) (C := RX4) (T := TX4) (N := 4) hx hb hts in_X12_hold_X4 tyX4 tyX4_ok nmX4 hown hE.1 hP hD hS 6 rfl rfl 2 (by decide +kernel) (hts (.fieldLink RX12 365 "ClauseBook$Hand" "above" "J") (List.mem_of_getElem? (i := 9) rfl)) (fun _ h9 => h9) rfl (by decide +kernel) rfl rfl (Nat.le_of_ble_eq_true rfl) dX12_hold_133 (fun H locs hP hD hS => ?_)
                    obtain ⟨hP, hD⟩ := wPD [(h0, .inr (9, fs0)), (h1, .inr (1, fs1)), (h2, .inr (8, [v0, v1, .ref p0, .ref p1, v4, .int n])), (p0, .inl (T 1, 676, .inr (.inl f_73))), (p1, .inl (T 1, 676, .inr (.inl f_74))), (h3, .inl (T 7, 4, .inr (.inr (.inr (.inr (va_up (va_up (va_up (va_up (fun _ => none) 0 (some t0)) 1 (some t1)) 2 (some t2)) 3 (some t3))))))), (t0, .inr (3, [.int x2, .int (jn 0), .long z_75, .long (jb 0)])), (t1, .inr (3, [.int (jz 1), .int (jn 1), .long (ja 1), .long (jb 1)])), (t2, .inr (3, [.int (jz 2), .int (jn 2), .long (ja 2), .long (jb 2)])), (t3, .inr (3, [.int (jz 3), .int (jn 3), .long (ja 3), .long (jb 3)]))] hP hD rfl
                    refine lv_aload hx hb dX12_hold_136 (lv_at hl 1 rfl) ?_
                    refine lv_aload_n hx hb dX12_hold_138 rfl (lv_at hl 2 rfl) ?_
                    refine va_get (D := D) (ci := 9) (v := .ref h2) (C := RX12) (T := TX12) (N := 11) hx hb hts in_X12_hold_X12 hown hE.1 hP 0 rfl rfl 6 (by decide +kernel) (hts (.fieldLink RX12 43 "ClauseBook" "worth" "LClauseBook$Worth;") (List.mem_of_getElem? (i := 7) rfl)) (fun _ h9 => h9) e0_6 dX12_hold_139 ?_
                    refine va_get (D := D) (ci := 8) (v := .ref p1) (C := RX11) (T := TX11) (N := 6) hx hb hts in_X12_hold_X11 hown hE.1 hP 2 rfl rfl 3 (by decide +kernel) (hts (.fieldLink RX12 206 "ClauseBook$Worth" "below" "[J") (List.mem_of_getElem? (i := 10) rfl)) (fun _ h9 => h9) rfl dX12_hold_142 ?_
                    refine lv_sipush (v := 675) hx hb dX12_hold_145 (by decide +kernel) ?_
                    refine va_lald hx hb hE.1 hP 4 1 rfl rfl (by unfold vp_in; decide) dX12_hold_148 ?_
                    refine lv_topl (fun z_76 ez_76 => ?_)
                    refine va_put (D := D) (ci := 3) (v := .long z_76) (ty := .long) (C := RX4) (T := TX4) (N := 4) hx hb hts in_X12_hold_X4 tyX4 tyX4_ok nmX4 hown hE.1 hP hD hS 6 rfl rfl 3 (by decide +kernel) (hts (.fieldLink RX12 368 "ClauseBook$Hand" "below" "J") (List.mem_of_getElem? (i := 11) rfl)) (fun _ h9 => h9) rfl (by decide +kernel) rfl rfl (Nat.le_of_ble_eq_true rfl) dX12_hold_149 (fun H locs hP hD hS => ?_)
                    obtain ⟨hP, hD⟩ := wPD [(h0, .inr (9, fs0)), (h1, .inr (1, fs1)), (h2, .inr (8, [v0, v1, .ref p0, .ref p1, v4, .int n])), (p0, .inl (T 1, 676, .inr (.inl f_73))), (p1, .inl (T 1, 676, .inr (.inl f_74))), (h3, .inl (T 7, 4, .inr (.inr (.inr (.inr (va_up (va_up (va_up (va_up (fun _ => none) 0 (some t0)) 1 (some t1)) 2 (some t2)) 3 (some t3))))))), (t0, .inr (3, [.int x2, .int (jn 0), .long z_75, .long z_76])), (t1, .inr (3, [.int (jz 1), .int (jn 1), .long (ja 1), .long (jb 1)])), (t2, .inr (3, [.int (jz 2), .int (jn 2), .long (ja 2), .long (jb 2)])), (t3, .inr (3, [.int (jz 3), .int (jn 3), .long (ja 3), .long (jb 3)]))] hP hD rfl
                    refine lv_iload hx hb dX12_hold_152 (lv_at hl 0 rfl) ?_
                    exact W.iret hx hb hr (fun t ht hW => ⟨⟨_, (f_73, f_74, (fun k => [x2, (jz 1), (jz 2), (jz 3)].getD k 0), (fun k => [(jn 0), (jn 1), (jn 2), (jn 3)].getD k 0), (fun k => [z_75, (ja 1), (ja 2), (ja 3)].getD k 0), (fun k => [z_76, (jb 1), (jb 2), (jb 3)].getD k 0)), rfl, (Or.inr ⟨⟨⟨by decide, by decide⟩, by omega, (fun h9 => by omega), (fun h9 => by omega)⟩, rfl, all4' ⟨(fun _ => ⟨rfl, (fun h9 => by first | rfl | (exfalso; omega))⟩), (fun h9 => absurd (by decide +kernel) h9)⟩ ⟨(fun h9 => absurd h9 (by decide +kernel)), (fun _ => ⟨rfl, rfl⟩)⟩ ⟨(fun h9 => absurd h9 (by decide +kernel)), (fun _ => ⟨rfl, rfl⟩)⟩ ⟨(fun h9 => absurd h9 (by decide +kernel)), (fun _ => ⟨rfl, rfl⟩)⟩⟩), by rw [ht]; exact hP.sub [0, 1, 2, 3, 4, 5, 6, 7, 8, 9] rfl, hD.sub [0, 1, 2, 3, 4, 5, 6, 7, 8, 9] (by decide +kernel) rfl⟩, hS.F ht⟩) hS.2.2 dX12_hold_154
                · rw [fa_eq] at c_69
                  try rw [ti_1] at c_69
                  refine lv_aload hx hb dX12_hold_95 (lv_at hl 1 rfl) ?_
                  refine lv_lload_n hx hb dX12_hold_97 rfl (lv_at hl 5 rfl) ?_
                  refine lv_l2i hx hb dX12_hold_98 rfl ?_
                  refine va_put (D := D) (ci := 3) (v := .int (x3.toInt32)) (ty := .int) (C := RX4) (T := TX4) (N := 4) hx hb hts in_X12_hold_X4 tyX4 tyX4_ok nmX4 hown hE.1 hP hD hS 6 rfl rfl 1 (by decide +kernel) (hts (.fieldLink RX12 360 "ClauseBook$Hand" "number" "I") (List.mem_of_getElem? (i := 6) rfl)) (fun _ h9 => h9) rfl (by decide +kernel) rfl rfl (Nat.le_of_ble_eq_true rfl) dX12_hold_99 (fun H locs hP hD hS => ?_)
                  obtain ⟨hP, hD⟩ := wPD [(h0, .inr (9, fs0)), (h1, .inr (1, fs1)), (h2, .inr (8, [v0, v1, .ref p0, .ref p1, v4, .int n])), (p0, .inl (T 1, 676, .inr (.inl f0))), (p1, .inl (T 1, 676, .inr (.inl f1))), (h3, .inl (T 7, 4, .inr (.inr (.inr (.inr (va_up (va_up (va_up (va_up (fun _ => none) 0 (some t0)) 1 (some t1)) 2 (some t2)) 3 (some t3))))))), (t0, .inr (3, [.int x2, .int (x3.toInt32), .long (ja 0), .long (jb 0)])), (t1, .inr (3, [.int (jz 1), .int (jn 1), .long (ja 1), .long (jb 1)])), (t2, .inr (3, [.int (jz 2), .int (jn 2), .long (ja 2), .long (jb 2)])), (t3, .inr (3, [.int (jz 3), .int (jn 3), .long (ja 3), .long (jb 3)]))] hP hD rfl
                  refine lv_iload_n hx hb dX12_hold_102 rfl (lv_at hl 4 rfl) ?_
                  refine lv_iconst (v := 2) hx hb dX12_hold_103 (by decide +kernel) ?_
                  refine lv_icmp_ne (tgt := 152) hx hb dX12_hold_104 (by decide +kernel) (fun c_77 => ?_) (fun c_77 => ?_)
                  · rw [fa_eq] at c_77
                    try rw [ti_2] at c_77
                    refine lv_iload hx hb dX12_hold_152 (lv_at hl 0 rfl) ?_
                    exact W.iret hx hb hr (fun t ht hW => ⟨⟨_, (f0, f1, (fun k => [x2, (jz 1), (jz 2), (jz 3)].getD k 0), (fun k => [(x3.toInt32), (jn 1), (jn 2), (jn 3)].getD k 0), (fun k => [(ja 0), (ja 1), (ja 2), (ja 3)].getD k 0), (fun k => [(jb 0), (jb 1), (jb 2), (jb 3)].getD k 0)), rfl, (Or.inr ⟨⟨⟨by decide, by decide⟩, by omega, (fun h9 => by omega), (fun h9 => by omega)⟩, rfl, all4' ⟨(fun _ => ⟨rfl, (fun h9 => by first | rfl | (exfalso; omega))⟩), (fun h9 => absurd (by decide +kernel) h9)⟩ ⟨(fun h9 => absurd h9 (by decide +kernel)), (fun _ => ⟨rfl, rfl⟩)⟩ ⟨(fun h9 => absurd h9 (by decide +kernel)), (fun _ => ⟨rfl, rfl⟩)⟩ ⟨(fun h9 => absurd h9 (by decide +kernel)), (fun _ => ⟨rfl, rfl⟩)⟩⟩), by rw [ht]; exact hP.sub [0, 1, 2, 3, 4, 5, 6, 7, 8, 9] rfl, hD.sub [0, 1, 2, 3, 4, 5, 6, 7, 8, 9] (by decide +kernel) rfl⟩, hS.F ht⟩) hS.2.2 dX12_hold_154
                  · rw [fa_eq] at c_77
                    try rw [ti_2] at c_77
                    refine lv_aload_n hx hb dX12_hold_107 rfl (lv_at hl 2 rfl) ?_
                    refine va_get (D := D) (ci := 9) (v := .ref h2) (C := RX12) (T := TX12) (N := 11) hx hb hts in_X12_hold_X12 hown hE.1 hP 0 rfl rfl 6 (by decide +kernel) (hts (.fieldLink RX12 43 "ClauseBook" "worth" "LClauseBook$Worth;") (List.mem_of_getElem? (i := 7) rfl)) (fun _ h9 => h9) e0_6 dX12_hold_108 ?_
                    refine lv_sipush (v := 675) hx hb dX12_hold_111 (by decide +kernel) ?_
                    refine lv_lload_n hx hb dX12_hold_114 rfl (lv_at hl 5 rfl) ?_
                    refine lv_lload hx hb dX12_hold_115 (lv_at hl 6 rfl) ?_
                    have hFc := va_free (wc := [(h2, .inr (8, [v0, v1, .ref p0, .ref p1, v4, .int n])), (p0, .inl (T 1, 676, .inr (.inl f0))), (p1, .inl (T 1, 676, .inr (.inl f1)))]) hD hS hA [2, 3, 4] rfl
                    refine va_callv (va_runV (As := [.int 675, .long x3, .long x4]) (rest := []) ⟨hx, hb, hml, hown, hts⟩ (c_X11_reduce l D T _ h2 p0 p1 (v0) (v1) (v4) n f0 f1 675 x3 x4 (by first | decide | omega)) (cwV 3 hts gX12_hold_X11_reduce rfl rfl rfl hv_X11_reduce ⟨Nat.le_of_ble_eq_true rfl, Nat.le_of_ble_eq_true rfl⟩) (pW_V (q := (RX11, TX11, 6)) (ci := 8) (q0 := 2) hP hE hD rfl rfl [2, 3, 4] (by decide +kernel) rfl rfl) rfl rfl hl.1 rfl (lv_room (Nat.le_of_ble_eq_true rfl)) dX12_hold_117 ⟨Nat.le_of_ble_eq_true rfl, Nat.le_of_ble_eq_true rfl⟩) hS (fun q _ h => hFc q h) hFc (fun u_79 t H1 locs ht hvm hr_78 hB hz1 hk1 hS => ?_)
                    obtain ⟨f_80, f_81⟩ := u_79
                    obtain ⟨hP1, hD1⟩ := hB
                    rw [ht] at hP1
                    obtain ⟨hP, hD⟩ := va_repl [(h0, .inr (9, fs0)), (h1, .inr (1, fs1)), (h2, .inr (8, [v0, v1, .ref p0, .ref p1, v4, .int n])), (p0, .inl (T 1, 676, .inr (.inl f_80))), (p1, .inl (T 1, 676, .inr (.inl f_81))), (h3, .inl (T 7, 4, .inr (.inr (.inr (.inr (va_up (va_up (va_up (va_up (fun _ => none) 0 (some t0)) 1 (some t1)) 2 (some t2)) 3 (some t3))))))), (t0, .inr (3, [.int x2, .int (x3.toInt32), .long (ja 0), .long (jb 0)])), (t1, .inr (3, [.int (jz 1), .int (jn 1), .long (ja 1), .long (jb 1)])), (t2, .inr (3, [.int (jz 2), .int (jn 2), .long (ja 2), .long (jb 2)])), (t3, .inr (3, [.int (jz 3), .int (jn 3), .long (ja 3), .long (jb 3)]))] hP hD [2, 3, 4] [2, 3, 4] rfl (by decide +kernel) rfl rfl rfl hk1 hP1
                    clear hP1 hD1 hFc
                    generalize H1 = H at hP hS ⊢
                    refine lv_aload hx hb dX12_hold_120 (lv_at hl 1 rfl) ?_
                    refine lv_aload_n hx hb dX12_hold_122 rfl (lv_at hl 2 rfl) ?_
                    refine va_get (D := D) (ci := 9) (v := .ref h2) (C := RX12) (T := TX12) (N := 11) hx hb hts in_X12_hold_X12 hown hE.1 hP 0 rfl rfl 6 (by decide +kernel) (hts (.fieldLink RX12 43 "ClauseBook" "worth" "LClauseBook$Worth;") (List.mem_of_getElem? (i := 7) rfl)) (fun _ h9 => h9) e0_6 dX12_hold_123 ?_
                    refine va_get (D := D) (ci := 8) (v := .ref p0) (C := RX11) (T := TX11) (N := 6) hx hb hts in_X12_hold_X11 hown hE.1 hP 2 rfl rfl 2 (by decide +kernel) (hts (.fieldLink RX12 202 "ClauseBook$Worth" "above" "[J") (List.mem_of_getElem? (i := 8) rfl)) (fun _ h9 => h9) rfl dX12_hold_126 ?_
                    refine lv_sipush (v := 675) hx hb dX12_hold_129 (by decide +kernel) ?_
                    refine va_lald hx hb hE.1 hP 3 1 rfl rfl (by unfold vp_in; decide) dX12_hold_132 ?_
                    refine lv_topl (fun z_82 ez_82 => ?_)
                    refine va_put (D := D) (ci := 3) (v := .long z_82) (ty := .long) (C := RX4) (T := TX4) (N := 4) hx hb hts in_X12_hold_X4 tyX4 tyX4_ok nmX4 hown hE.1 hP hD hS 6 rfl rfl 2 (by decide +kernel) (hts (.fieldLink RX12 365 "ClauseBook$Hand" "above" "J") (List.mem_of_getElem? (i := 9) rfl)) (fun _ h9 => h9) rfl (by decide +kernel) rfl rfl (Nat.le_of_ble_eq_true rfl) dX12_hold_133 (fun H locs hP hD hS => ?_)
                    obtain ⟨hP, hD⟩ := wPD [(h0, .inr (9, fs0)), (h1, .inr (1, fs1)), (h2, .inr (8, [v0, v1, .ref p0, .ref p1, v4, .int n])), (p0, .inl (T 1, 676, .inr (.inl f_80))), (p1, .inl (T 1, 676, .inr (.inl f_81))), (h3, .inl (T 7, 4, .inr (.inr (.inr (.inr (va_up (va_up (va_up (va_up (fun _ => none) 0 (some t0)) 1 (some t1)) 2 (some t2)) 3 (some t3))))))), (t0, .inr (3, [.int x2, .int (x3.toInt32), .long z_82, .long (jb 0)])), (t1, .inr (3, [.int (jz 1), .int (jn 1), .long (ja 1), .long (jb 1)])), (t2, .inr (3, [.int (jz 2), .int (jn 2), .long (ja 2), .long (jb 2)])), (t3, .inr (3, [.int (jz 3), .int (jn 3), .long (ja 3), .long (jb 3)]))] hP hD rfl
                    refine lv_aload hx hb dX12_hold_136 (lv_at hl 1 rfl) ?_
                    refine lv_aload_n hx hb dX12_hold_138 rfl (lv_at hl 2 rfl) ?_
                    refine va_get (D := D) (ci := 9) (v := .ref h2) (C := RX12) (T := TX12) (N := 11) hx hb hts in_X12_hold_X12 hown hE.1 hP 0 rfl rfl 6 (by decide +kernel) (hts (.fieldLink RX12 43 "ClauseBook" "worth" "LClauseBook$Worth;") (List.mem_of_getElem? (i := 7) rfl)) (fun _ h9 => h9) e0_6 dX12_hold_139 ?_
                    refine va_get (D := D) (ci := 8) (v := .ref p1) (C := RX11) (T := TX11) (N := 6) hx hb hts in_X12_hold_X11 hown hE.1 hP 2 rfl rfl 3 (by decide +kernel) (hts (.fieldLink RX12 206 "ClauseBook$Worth" "below" "[J") (List.mem_of_getElem? (i := 10) rfl)) (fun _ h9 => h9) rfl dX12_hold_142 ?_
                    refine lv_sipush (v := 675) hx hb dX12_hold_145 (by decide +kernel) ?_
                    refine va_lald hx hb hE.1 hP 4 1 rfl rfl (by unfold vp_in; decide) dX12_hold_148 ?_
                    refine lv_topl (fun z_83 ez_83 => ?_)
                    refine va_put (D := D) (ci := 3) (v := .long z_83) (ty := .long) (C := RX4) (T := TX4) (N := 4) hx hb hts in_X12_hold_X4 tyX4 tyX4_ok nmX4 hown hE.1 hP hD hS 6 rfl rfl 3 (by decide +kernel) (hts (.fieldLink RX12 368 "ClauseBook$Hand" "below" "J") (List.mem_of_getElem? (i := 11) rfl)) (fun _ h9 => h9) rfl (by decide +kernel) rfl rfl (Nat.le_of_ble_eq_true rfl) dX12_hold_149 (fun H locs hP hD hS => ?_)
                    obtain ⟨hP, hD⟩ := wPD [(h0, .inr (9, fs0)), (h1, .inr (1, fs1)), (h2, .inr (8, [v0, v1, .ref p0, .ref p1, v4, .int n])), (p0, .inl (T 1, 676, .inr (.inl f_80))), (p1, .inl (T 1, 676, .inr (.inl f_81))), (h3, .inl (T 7, 4, .inr (.inr (.inr (.inr (va_up (va_up (va_up (va_up (fun _ => none) 0 (some t0)) 1 (some t1)) 2 (some t2)) 3 (some t3))))))), (t0, .inr (3, [.int x2, .int (x3.toInt32), .long z_82, .long z_83])), (t1, .inr (3, [.int (jz 1), .int (jn 1), .long (ja 1), .long (jb 1)])), (t2, .inr (3, [.int (jz 2), .int (jn 2), .long (ja 2), .long (jb 2)])), (t3, .inr (3, [.int (jz 3), .int (jn 3), .long (ja 3), .long (jb 3)]))] hP hD rfl
                    refine lv_iload hx hb dX12_hold_152 (lv_at hl 0 rfl) ?_
                    exact W.iret hx hb hr (fun t ht hW => ⟨⟨_, (f_80, f_81, (fun k => [x2, (jz 1), (jz 2), (jz 3)].getD k 0), (fun k => [(x3.toInt32), (jn 1), (jn 2), (jn 3)].getD k 0), (fun k => [z_82, (ja 1), (ja 2), (ja 3)].getD k 0), (fun k => [z_83, (jb 1), (jb 2), (jb 3)].getD k 0)), rfl, (Or.inr ⟨⟨⟨by decide, by decide⟩, by omega, (fun h9 => by omega), (fun h9 => by omega)⟩, rfl, all4' ⟨(fun _ => ⟨rfl, (fun h9 => by first | rfl | (exfalso; omega))⟩), (fun h9 => absurd (by decide +kernel) h9)⟩ ⟨(fun h9 => absurd h9 (by decide +kernel)), (fun _ => ⟨rfl, rfl⟩)⟩ ⟨(fun h9 => absurd h9 (by decide +kernel)), (fun _ => ⟨rfl, rfl⟩)⟩ ⟨(fun h9 => absurd h9 (by decide +kernel)), (fun _ => ⟨rfl, rfl⟩)⟩⟩), by rw [ht]; exact hP.sub [0, 1, 2, 3, 4, 5, 6, 7, 8, 9] rfl, hD.sub [0, 1, 2, 3, 4, 5, 6, 7, 8, 9] (by decide +kernel) rfl⟩, hS.F ht⟩) hS.2.2 dX12_hold_154
              · refine va_aldq hx hb hE.1 hP 5 7 rfl rfl (by unfold vp_in; decide) dX12_hold_74 ?_
                refine W.eq (g2 := F0 m 75 ls [.ref t1]) rfl ?_
                refine lv_astore (lv' := [(7, .ref t1), (0, .ref h0), (1, .int 1), (2, .int x2), (3, .long x3), (5, .long x4)]) hx hb dX12_hold_75 hl (by decide +kernel) rfl (fun ls hl => ?_)
                refine lv_aload hx hb dX12_hold_77 (lv_at hl 0 rfl) ?_
                refine va_get (D := D) (ci := 3) (v := .int (jz 1)) (C := RX4) (T := TX4) (N := 4) hx hb hts in_X12_hold_X4 hown hE.1 hP 7 rfl rfl 0 (by decide +kernel) (hts (.fieldLink RX12 359 "ClauseBook$Hand" "sort" "I") (List.mem_of_getElem? (i := 5) rfl)) (fun _ h9 => h9) rfl dX12_hold_79 ?_
                refine lv_istore (lv' := [(8, .int (jz 1)), (7, .ref t1), (0, .ref h0), (1, .int 1), (2, .int x2), (3, .long x3), (5, .long x4)]) hx hb dX12_hold_82 hl (by decide +kernel) rfl (fun ls hl => ?_)
                refine lv_aload hx hb dX12_hold_84 (lv_at hl 1 rfl) ?_
                refine lv_iload_n hx hb dX12_hold_86 rfl (lv_at hl 4 rfl) ?_
                refine va_put (D := D) (ci := 3) (v := .int x2) (ty := .int) (C := RX4) (T := TX4) (N := 4) hx hb hts in_X12_hold_X4 tyX4 tyX4_ok nmX4 hown hE.1 hP hD hS 7 rfl rfl 0 (by decide +kernel) (hts (.fieldLink RX12 359 "ClauseBook$Hand" "sort" "I") (List.mem_of_getElem? (i := 5) rfl)) (fun _ h9 => h9) rfl (by decide +kernel) rfl rfl (Nat.le_of_ble_eq_true rfl) dX12_hold_87 (fun H locs hP hD hS => ?_)
                obtain ⟨hP, hD⟩ := wPD [(h0, .inr (9, fs0)), (h1, .inr (1, fs1)), (h2, .inr (8, [v0, v1, .ref p0, .ref p1, v4, .int n])), (p0, .inl (T 1, 676, .inr (.inl f0))), (p1, .inl (T 1, 676, .inr (.inl f1))), (h3, .inl (T 7, 4, .inr (.inr (.inr (.inr (va_up (va_up (va_up (va_up (fun _ => none) 0 (some t0)) 1 (some t1)) 2 (some t2)) 3 (some t3))))))), (t0, .inr (3, [.int (jz 0), .int (jn 0), .long (ja 0), .long (jb 0)])), (t1, .inr (3, [.int x2, .int (jn 1), .long (ja 1), .long (jb 1)])), (t2, .inr (3, [.int (jz 2), .int (jn 2), .long (ja 2), .long (jb 2)])), (t3, .inr (3, [.int (jz 3), .int (jn 3), .long (ja 3), .long (jb 3)]))] hP hD rfl
                refine lv_iload_n hx hb dX12_hold_90 rfl (lv_at hl 4 rfl) ?_
                refine lv_iconst (v := 1) hx hb dX12_hold_91 (by decide +kernel) ?_
                refine lv_icmp_ne (tgt := 102) hx hb dX12_hold_92 (by decide +kernel) (fun c_84 => ?_) (fun c_84 => ?_)
                · rw [fa_eq] at c_84
                  try rw [ti_1] at c_84
                  refine lv_iload_n hx hb dX12_hold_102 rfl (lv_at hl 4 rfl) ?_
                  refine lv_iconst (v := 2) hx hb dX12_hold_103 (by decide +kernel) ?_
                  refine lv_icmp_ne (tgt := 152) hx hb dX12_hold_104 (by decide +kernel) (fun c_85 => ?_) (fun c_85 => ?_)
                  · rw [fa_eq] at c_85
                    try rw [ti_2] at c_85
                    refine lv_iload hx hb dX12_hold_152 (lv_at hl 0 rfl) ?_
                    exact W.iret hx hb hr (fun t ht hW => ⟨⟨_, (f0, f1, (fun k => [(jz 0), x2, (jz 2), (jz 3)].getD k 0), (fun k => [(jn 0), (jn 1), (jn 2), (jn 3)].getD k 0), (fun k => [(ja 0), (ja 1), (ja 2), (ja 3)].getD k 0), (fun k => [(jb 0), (jb 1), (jb 2), (jb 3)].getD k 0)), rfl, (Or.inr ⟨⟨⟨by decide, by decide⟩, by omega, (fun h9 => by omega), (fun h9 => by omega)⟩, rfl, all4' ⟨(fun h9 => absurd h9 (by decide +kernel)), (fun _ => ⟨rfl, rfl⟩)⟩ ⟨(fun _ => ⟨rfl, (fun h9 => by first | rfl | (exfalso; omega))⟩), (fun h9 => absurd (by decide +kernel) h9)⟩ ⟨(fun h9 => absurd h9 (by decide +kernel)), (fun _ => ⟨rfl, rfl⟩)⟩ ⟨(fun h9 => absurd h9 (by decide +kernel)), (fun _ => ⟨rfl, rfl⟩)⟩⟩), by rw [ht]; exact hP.sub [0, 1, 2, 3, 4, 5, 6, 7, 8, 9] rfl, hD.sub [0, 1, 2, 3, 4, 5, 6, 7, 8, 9] (by decide +kernel) rfl⟩, hS.F ht⟩) hS.2.2 dX12_hold_154
                  · rw [fa_eq] at c_85
                    try rw [ti_2] at c_85
                    refine lv_aload_n hx hb dX12_hold_107 rfl (lv_at hl 2 rfl) ?_
                    refine va_get (D := D) (ci := 9) (v := .ref h2) (C := RX12) (T := TX12) (N := 11) hx hb hts in_X12_hold_X12 hown hE.1 hP 0 rfl rfl 6 (by decide +kernel) (hts (.fieldLink RX12 43 "ClauseBook" "worth" "LClauseBook$Worth;") (List.mem_of_getElem? (i := 7) rfl)) (fun _ h9 => h9) e0_6 dX12_hold_108 ?_
                    refine lv_sipush (v := 675) hx hb dX12_hold_111 (by decide +kernel) ?_
                    refine lv_lload_n hx hb dX12_hold_114 rfl (lv_at hl 5 rfl) ?_
                    refine lv_lload hx hb dX12_hold_115 (lv_at hl 6 rfl) ?_
                    have hFc := va_free (wc := [(h2, .inr (8, [v0, v1, .ref p0, .ref p1, v4, .int n])), (p0, .inl (T 1, 676, .inr (.inl f0))), (p1, .inl (T 1, 676, .inr (.inl f1)))]) hD hS hA [2, 3, 4] rfl
                    refine va_callv (va_runV (As := [.int 675, .long x3, .long x4]) (rest := []) ⟨hx, hb, hml, hown, hts⟩ (c_X11_reduce l D T _ h2 p0 p1 (v0) (v1) (v4) n f0 f1 675 x3 x4 (by first | decide | omega)) (cwV 3 hts gX12_hold_X11_reduce rfl rfl rfl hv_X11_reduce ⟨Nat.le_of_ble_eq_true rfl, Nat.le_of_ble_eq_true rfl⟩) (pW_V (q := (RX11, TX11, 6)) (ci := 8) (q0 := 2) hP hE hD rfl rfl [2, 3, 4] (by decide +kernel) rfl rfl) rfl rfl hl.1 rfl (lv_room (Nat.le_of_ble_eq_true rfl)) dX12_hold_117 ⟨Nat.le_of_ble_eq_true rfl, Nat.le_of_ble_eq_true rfl⟩) hS (fun q _ h => hFc q h) hFc (fun u_87 t H1 locs ht hvm hr_86 hB hz1 hk1 hS => ?_)
                    obtain ⟨f_88, f_89⟩ := u_87
                    obtain ⟨hP1, hD1⟩ := hB
                    rw [ht] at hP1
                    obtain ⟨hP, hD⟩ := va_repl [(h0, .inr (9, fs0)), (h1, .inr (1, fs1)), (h2, .inr (8, [v0, v1, .ref p0, .ref p1, v4, .int n])), (p0, .inl (T 1, 676, .inr (.inl f_88))), (p1, .inl (T 1, 676, .inr (.inl f_89))), (h3, .inl (T 7, 4, .inr (.inr (.inr (.inr (va_up (va_up (va_up (va_up (fun _ => none) 0 (some t0)) 1 (some t1)) 2 (some t2)) 3 (some t3))))))), (t0, .inr (3, [.int (jz 0), .int (jn 0), .long (ja 0), .long (jb 0)])), (t1, .inr (3, [.int x2, .int (jn 1), .long (ja 1), .long (jb 1)])), (t2, .inr (3, [.int (jz 2), .int (jn 2), .long (ja 2), .long (jb 2)])), (t3, .inr (3, [.int (jz 3), .int (jn 3), .long (ja 3), .long (jb 3)]))] hP hD [2, 3, 4] [2, 3, 4] rfl (by decide +kernel) rfl rfl rfl hk1 hP1
                    clear hP1 hD1 hFc
                    generalize H1 = H at hP hS ⊢
                    refine lv_aload hx hb dX12_hold_120 (lv_at hl 1 rfl) ?_
                    refine lv_aload_n hx hb dX12_hold_122 rfl (lv_at hl 2 rfl) ?_
                    refine va_get (D := D) (ci := 9) (v := .ref h2) (C := RX12) (T := TX12) (N := 11) hx hb hts in_X12_hold_X12 hown hE.1 hP 0 rfl rfl 6 (by decide +kernel) (hts (.fieldLink RX12 43 "ClauseBook" "worth" "LClauseBook$Worth;") (List.mem_of_getElem? (i := 7) rfl)) (fun _ h9 => h9) e0_6 dX12_hold_123 ?_
                    refine va_get (D := D) (ci := 8) (v := .ref p0) (C := RX11) (T := TX11) (N := 6) hx hb hts in_X12_hold_X11 hown hE.1 hP 2 rfl rfl 2 (by decide +kernel) (hts (.fieldLink RX12 202 "ClauseBook$Worth" "above" "[J") (List.mem_of_getElem? (i := 8) rfl)) (fun _ h9 => h9) rfl dX12_hold_126 ?_
                    refine lv_sipush (v := 675) hx hb dX12_hold_129 (by decide +kernel) ?_
                    refine va_lald hx hb hE.1 hP 3 1 rfl rfl (by unfold vp_in; decide) dX12_hold_132 ?_
                    refine lv_topl (fun z_90 ez_90 => ?_)
                    refine va_put (D := D) (ci := 3) (v := .long z_90) (ty := .long) (C := RX4) (T := TX4) (N := 4) hx hb hts in_X12_hold_X4 tyX4 tyX4_ok nmX4 hown hE.1 hP hD hS 7 rfl rfl 2 (by decide +kernel) (hts (.fieldLink RX12 365 "ClauseBook$Hand" "above" "J") (List.mem_of_getElem? (i := 9) rfl)) (fun _ h9 => h9) rfl (by decide +kernel) rfl rfl (Nat.le_of_ble_eq_true rfl) dX12_hold_133 (fun H locs hP hD hS => ?_)
                    obtain ⟨hP, hD⟩ := wPD [(h0, .inr (9, fs0)), (h1, .inr (1, fs1)), (h2, .inr (8, [v0, v1, .ref p0, .ref p1, v4, .int n])), (p0, .inl (T 1, 676, .inr (.inl f_88))), (p1, .inl (T 1, 676, .inr (.inl f_89))), (h3, .inl (T 7, 4, .inr (.inr (.inr (.inr (va_up (va_up (va_up (va_up (fun _ => none) 0 (some t0)) 1 (some t1)) 2 (some t2)) 3 (some t3))))))), (t0, .inr (3, [.int (jz 0), .int (jn 0), .long (ja 0), .long (jb 0)])), (t1, .inr (3, [.int x2, .int (jn 1), .long z_90, .long (jb 1)])), (t2, .inr (3, [.int (jz 2), .int (jn 2), .long (ja 2), .long (jb 2)])), (t3, .inr (3, [.int (jz 3), .int (jn 3), .long (ja 3), .long (jb 3)]))] hP hD rfl
                    refine lv_aload hx hb dX12_hold_136 (lv_at hl 1 rfl) ?_
                    refine lv_aload_n hx hb dX12_hold_138 rfl (lv_at hl 2 rfl) ?_
                    refine va_get (D := D) (ci := 9) (v := .ref h2) (C := RX12) (T := TX12) (N := 11) hx hb hts in_X12_hold_X12 hown hE.1 hP 0 rfl rfl 6 (by decide +kernel) (hts (.fieldLink RX12 43 "ClauseBook" "worth" "LClauseBook$Worth;") (List.mem_of_getElem? (i := 7) rfl)) (fun _ h9 => h9) e0_6 dX12_hold_139 ?_
                    refine va_get (D := D) (ci := 8) (v := .ref p1) (C := RX11) (T := TX11) (N := 6) hx hb hts in_X12_hold_X11 hown hE.1 hP 2 rfl rfl 3 (by decide +kernel) (hts (.fieldLink RX12 206 "ClauseBook$Worth" "below" "[J") (List.mem_of_getElem? (i := 10) rfl)) (fun _ h9 => h9) rfl dX12_hold_142 ?_
                    refine lv_sipush (v := 675) hx hb dX12_hold_145 (by decide +kernel) ?_
                    refine va_lald hx hb hE.1 hP 4 1 rfl rfl (by unfold vp_in; decide) dX12_hold_148 ?_
                    refine lv_topl (fun z_91 ez_91 => ?_)
                    refine va_put (D := D) (ci := 3) (v := .long z_91) (ty := .long) (C := RX4) (T := TX4) (N := 4) hx hb hts in_X12_hold_X4 tyX4 tyX4_ok nmX4 hown hE.1 hP hD hS 7 rfl rfl 3 (by decide +kernel) (hts (.fieldLink RX12 368 "ClauseBook$Hand" "below" "J") (List.mem_of_getElem? (i := 11) rfl)) (fun _ h9 => h9) rfl (by decide +kernel) rfl rfl (Nat.le_of_ble_eq_true rfl) dX12_hold_149 (fun H locs hP hD hS => ?_)
                    obtain ⟨hP, hD⟩ := wPD [(h0, .inr (9, fs0)), (h1, .inr (1, fs1)), (h2, .inr (8, [v0, v1, .ref p0, .ref p1, v4, .int n])), (p0, .inl (T 1, 676, .inr (.inl f_88))), (p1, .inl (T 1, 676, .inr (.inl f_89))), (h3, .inl (T 7, 4, .inr (.inr (.inr (.inr (va_up (va_up (va_up (va_up (fun _ => none) 0 (some t0)) 1 (some t1)) 2 (some t2)) 3 (some t3))))))), (t0, .inr (3, [.int (jz 0), .int (jn 0), .long (ja 0), .long (jb 0)])), (t1, .inr (3, [.int x2, .int (jn 1), .long z_90, .long z_91])), (t2, .inr (3, [.int (jz 2), .int (jn 2), .long (ja 2), .long (jb 2)])), (t3, .inr (3, [.int (jz 3), .int (jn 3), .long (ja 3), .long (jb 3)]))] hP hD rfl
                    refine lv_iload hx hb dX12_hold_152 (lv_at hl 0 rfl) ?_
                    exact W.iret hx hb hr (fun t ht hW => ⟨⟨_, (f_88, f_89, (fun k => [(jz 0), x2, (jz 2), (jz 3)].getD k 0), (fun k => [(jn 0), (jn 1), (jn 2), (jn 3)].getD k 0), (fun k => [(ja 0), z_90, (ja 2), (ja 3)].getD k 0), (fun k => [(jb 0), z_91, (jb 2), (jb 3)].getD k 0)), rfl, (Or.inr ⟨⟨⟨by decide, by decide⟩, by omega, (fun h9 => by omega), (fun h9 => by omega)⟩, rfl, all4' ⟨(fun h9 => absurd h9 (by decide +kernel)), (fun _ => ⟨rfl, rfl⟩)⟩ ⟨(fun _ => ⟨rfl, (fun h9 => by first | rfl | (exfalso; omega))⟩), (fun h9 => absurd (by decide +kernel) h9)⟩ ⟨(fun h9 => absurd h9 (by decide +kernel)), (fun _ => ⟨rfl, rfl⟩)⟩ ⟨(fun h9 => absurd h9 (by decide +kernel)), (fun _ => ⟨rfl, rfl⟩)⟩⟩), by rw [ht]; exact hP.sub [0, 1, 2, 3, 4, 5, 6, 7, 8, 9] rfl, hD.sub [0, 1, 2, 3, 4, 5, 6, 7, 8, 9] (by decide +kernel) rfl⟩, hS.F ht⟩) hS.2.2 dX12_hold_154
                · rw [fa_eq] at c_84
                  try rw [ti_1] at c_84
                  refine lv_aload hx hb dX12_hold_95 (lv_at hl 1 rfl) ?_
                  refine lv_lload_n hx hb dX12_hold_97 rfl (lv_at hl 5 rfl) ?_
                  refine lv_l2i hx hb dX12_hold_98 rfl ?_
                  refine va_put (D := D) (ci := 3) (v := .int (x3.toInt32)) (ty := .int) (C := RX4) (T := TX4) (N := 4) hx hb hts in_X12_hold_X4 tyX4 tyX4_ok nmX4 hown hE.1 hP hD hS 7 rfl rfl 1 (by decide +kernel) (hts (.fieldLink RX12 360 "ClauseBook$Hand" "number" "I") (List.mem_of_getElem? (i := 6) rfl)) (fun _ h9 => h9) rfl (by decide +kernel) rfl rfl (Nat.le_of_ble_eq_true rfl) dX12_hold_99 (fun H locs hP hD hS => ?_)
                  obtain ⟨hP, hD⟩ := wPD [(h0, .inr (9, fs0)), (h1, .inr (1, fs1)), (h2, .inr (8, [v0, v1, .ref p0, .ref p1, v4, .int n])), (p0, .inl (T 1, 676, .inr (.inl f0))), (p1, .inl (T 1, 676, .inr (.inl f1))), (h3, .inl (T 7, 4, .inr (.inr (.inr (.inr (va_up (va_up (va_up (va_up (fun _ => none) 0 (some t0)) 1 (some t1)) 2 (some t2)) 3 (some t3))))))), (t0, .inr (3, [.int (jz 0), .int (jn 0), .long (ja 0), .long (jb 0)])), (t1, .inr (3, [.int x2, .int (x3.toInt32), .long (ja 1), .long (jb 1)])), (t2, .inr (3, [.int (jz 2), .int (jn 2), .long (ja 2), .long (jb 2)])), (t3, .inr (3, [.int (jz 3), .int (jn 3), .long (ja 3), .long (jb 3)]))] hP hD rfl
                  refine lv_iload_n hx hb dX12_hold_102 rfl (lv_at hl 4 rfl) ?_
                  refine lv_iconst (v := 2) hx hb dX12_hold_103 (by decide +kernel) ?_
                  refine lv_icmp_ne (tgt := 152) hx hb dX12_hold_104 (by decide +kernel) (fun c_92 => ?_) (fun c_92 => ?_)
                  · rw [fa_eq] at c_92
                    try rw [ti_2] at c_92
                    refine lv_iload hx hb dX12_hold_152 (lv_at hl 0 rfl) ?_
                    exact W.iret hx hb hr (fun t ht hW => ⟨⟨_, (f0, f1, (fun k => [(jz 0), x2, (jz 2), (jz 3)].getD k 0), (fun k => [(jn 0), (x3.toInt32), (jn 2), (jn 3)].getD k 0), (fun k => [(ja 0), (ja 1), (ja 2), (ja 3)].getD k 0), (fun k => [(jb 0), (jb 1), (jb 2), (jb 3)].getD k 0)), rfl, (Or.inr ⟨⟨⟨by decide, by decide⟩, by omega, (fun h9 => by omega), (fun h9 => by omega)⟩, rfl, all4' ⟨(fun h9 => absurd h9 (by decide +kernel)), (fun _ => ⟨rfl, rfl⟩)⟩ ⟨(fun _ => ⟨rfl, (fun h9 => by first | rfl | (exfalso; omega))⟩), (fun h9 => absurd (by decide +kernel) h9)⟩ ⟨(fun h9 => absurd h9 (by decide +kernel)), (fun _ => ⟨rfl, rfl⟩)⟩ ⟨(fun h9 => absurd h9 (by decide +kernel)), (fun _ => ⟨rfl, rfl⟩)⟩⟩), by rw [ht]; exact hP.sub [0, 1, 2, 3, 4, 5, 6, 7, 8, 9] rfl, hD.sub [0, 1, 2, 3, 4, 5, 6, 7, 8, 9] (by decide +kernel) rfl⟩, hS.F ht⟩) hS.2.2 dX12_hold_154
                  · rw [fa_eq] at c_92
                    try rw [ti_2] at c_92
                    refine lv_aload_n hx hb dX12_hold_107 rfl (lv_at hl 2 rfl) ?_
                    refine va_get (D := D) (ci := 9) (v := .ref h2) (C := RX12) (T := TX12) (N := 11) hx hb hts in_X12_hold_X12 hown hE.1 hP 0 rfl rfl 6 (by decide +kernel) (hts (.fieldLink RX12 43 "ClauseBook" "worth" "LClauseBook$Worth;") (List.mem_of_getElem? (i := 7) rfl)) (fun _ h9 => h9) e0_6 dX12_hold_108 ?_
                    refine lv_sipush (v := 675) hx hb dX12_hold_111 (by decide +kernel) ?_
                    refine lv_lload_n hx hb dX12_hold_114 rfl (lv_at hl 5 rfl) ?_
                    refine lv_lload hx hb dX12_hold_115 (lv_at hl 6 rfl) ?_
                    have hFc := va_free (wc := [(h2, .inr (8, [v0, v1, .ref p0, .ref p1, v4, .int n])), (p0, .inl (T 1, 676, .inr (.inl f0))), (p1, .inl (T 1, 676, .inr (.inl f1)))]) hD hS hA [2, 3, 4] rfl
                    refine va_callv (va_runV (As := [.int 675, .long x3, .long x4]) (rest := []) ⟨hx, hb, hml, hown, hts⟩ (c_X11_reduce l D T _ h2 p0 p1 (v0) (v1) (v4) n f0 f1 675 x3 x4 (by first | decide | omega)) (cwV 3 hts gX12_hold_X11_reduce rfl rfl rfl hv_X11_reduce ⟨Nat.le_of_ble_eq_true rfl, Nat.le_of_ble_eq_true rfl⟩) (pW_V (q := (RX11, TX11, 6)) (ci := 8) (q0 := 2) hP hE hD rfl rfl [2, 3, 4] (by decide +kernel) rfl rfl) rfl rfl hl.1 rfl (lv_room (Nat.le_of_ble_eq_true rfl)) dX12_hold_117 ⟨Nat.le_of_ble_eq_true rfl, Nat.le_of_ble_eq_true rfl⟩) hS (fun q _ h => hFc q h) hFc (fun u_94 t H1 locs ht hvm hr_93 hB hz1 hk1 hS => ?_)
                    obtain ⟨f_95, f_96⟩ := u_94
                    obtain ⟨hP1, hD1⟩ := hB
                    rw [ht] at hP1
                    obtain ⟨hP, hD⟩ := va_repl [(h0, .inr (9, fs0)), (h1, .inr (1, fs1)), (h2, .inr (8, [v0, v1, .ref p0, .ref p1, v4, .int n])), (p0, .inl (T 1, 676, .inr (.inl f_95))), (p1, .inl (T 1, 676, .inr (.inl f_96))), (h3, .inl (T 7, 4, .inr (.inr (.inr (.inr (va_up (va_up (va_up (va_up (fun _ => none) 0 (some t0)) 1 (some t1)) 2 (some t2)) 3 (some t3))))))), (t0, .inr (3, [.int (jz 0), .int (jn 0), .long (ja 0), .long (jb 0)])), (t1, .inr (3, [.int x2, .int (x3.toInt32), .long (ja 1), .long (jb 1)])), (t2, .inr (3, [.int (jz 2), .int (jn 2), .long (ja 2), .long (jb 2)])), (t3, .inr (3, [.int (jz 3), .int (jn 3), .long (ja 3), .long (jb 3)]))] hP hD [2, 3, 4] [2, 3, 4] rfl (by decide +kernel) rfl rfl rfl hk1 hP1
                    clear hP1 hD1 hFc
                    generalize H1 = H at hP hS ⊢
                    refine lv_aload hx hb dX12_hold_120 (lv_at hl 1 rfl) ?_
                    refine lv_aload_n hx hb dX12_hold_122 rfl (lv_at hl 2 rfl) ?_
                    refine va_get (D := D) (ci := 9) (v := .ref h2) (C := RX12) (T := TX12) (N := 11) hx hb hts in_X12_hold_X12 hown hE.1 hP 0 rfl rfl 6 (by decide +kernel) (hts (.fieldLink RX12 43 "ClauseBook" "worth" "LClauseBook$Worth;") (List.mem_of_getElem? (i := 7) rfl)) (fun _ h9 => h9) e0_6 dX12_hold_123 ?_
                    refine va_get (D := D) (ci := 8) (v := .ref p0) (C := RX11) (T := TX11) (N := 6) hx hb hts in_X12_hold_X11 hown hE.1 hP 2 rfl rfl 2 (by decide +kernel) (hts (.fieldLink RX12 202 "ClauseBook$Worth" "above" "[J") (List.mem_of_getElem? (i := 8) rfl)) (fun _ h9 => h9) rfl dX12_hold_126 ?_
                    refine lv_sipush (v := 675) hx hb dX12_hold_129 (by decide +kernel) ?_
                    refine va_lald hx hb hE.1 hP 3 1 rfl rfl (by unfold vp_in; decide) dX12_hold_132 ?_
                    refine lv_topl (fun z_97 ez_97 => ?_)
                    refine va_put (D := D) (ci := 3) (v := .long z_97) (ty := .long) (C := RX4) (T := TX4) (N := 4) hx hb hts in_X12_hold_X4 tyX4 tyX4_ok nmX4 hown hE.1 hP hD hS 7 rfl rfl 2 (by decide +kernel) (hts (.fieldLink RX12 365 "ClauseBook$Hand" "above" "J") (List.mem_of_getElem? (i := 9) rfl)) (fun _ h9 => h9) rfl (by decide +kernel) rfl rfl (Nat.le_of_ble_eq_true rfl) dX12_hold_133 (fun H locs hP hD hS => ?_)
                    obtain ⟨hP, hD⟩ := wPD [(h0, .inr (9, fs0)), (h1, .inr (1, fs1)), (h2, .inr (8, [v0, v1, .ref p0, .ref p1, v4, .int n])), (p0, .inl (T 1, 676, .inr (.inl f_95))), (p1, .inl (T 1, 676, .inr (.inl f_96))), (h3, .inl (T 7, 4, .inr (.inr (.inr (.inr (va_up (va_up (va_up (va_up (fun _ => none) 0 (some t0)) 1 (some t1)) 2 (some t2)) 3 (some t3))))))), (t0, .inr (3, [.int (jz 0), .int (jn 0), .long (ja 0), .long (jb 0)])), (t1, .inr (3, [.int x2, .int (x3.toInt32), .long z_97, .long (jb 1)])), (t2, .inr (3, [.int (jz 2), .int (jn 2), .long (ja 2), .long (jb 2)])), (t3, .inr (3, [.int (jz 3), .int (jn 3), .long (ja 3), .long (jb 3)]))] hP hD rfl
                    refine lv_aload hx hb dX12_hold_136 (lv_at hl 1 rfl) ?_
                    refine lv_aload_n hx hb dX12_hold_138 rfl (lv_at hl 2 rfl) ?_
                    refine va_get (D := D) (ci := 9) (v := .ref h2) (C := RX12) (T := TX12) (N := 11) hx hb hts in_X12_hold_X12 hown hE.1 hP 0 rfl rfl 6 (by decide +kernel) (hts (.fieldLink RX12 43 "ClauseBook" "worth" "LClauseBook$Worth;") (List.mem_of_getElem? (i := 7) rfl)) (fun _ h9 => h9) e0_6 dX12_hold_139 ?_
                    refine va_get (D := D) (ci := 8) (v := .ref p1) (C := RX11) (T := TX11) (N := 6) hx hb hts in_X12_hold_X11 hown hE.1 hP 2 rfl rfl 3 (by decide +kernel) (hts (.fieldLink RX12 206 "ClauseBook$Worth" "below" "[J") (List.mem_of_getElem? (i := 10) rfl)) (fun _ h9 => h9) rfl dX12_hold_142 ?_
                    refine lv_sipush (v := 675) hx hb dX12_hold_145 (by decide +kernel) ?_
                    refine va_lald hx hb hE.1 hP 4 1 rfl rfl (by unfold vp_in; decide) dX12_hold_148 ?_
                    refine lv_topl (fun z_98 ez_98 => ?_)
                    refine va_put (D := D) (ci := 3) (v := .long z_98) (ty := .long) (C := RX4) (T := TX4) (N := 4) hx hb hts in_X12_hold_X4 tyX4 tyX4_ok nmX4 hown hE.1 hP hD hS 7 rfl rfl 3 (by decide +kernel) (hts (.fieldLink RX12 368 "ClauseBook$Hand" "below" "J") (List.mem_of_getElem? (i := 11) rfl)) (fun _ h9 => h9) rfl (by decide +kernel) rfl rfl (Nat.le_of_ble_eq_true rfl) dX12_hold_149 (fun H locs hP hD hS => ?_)
                    obtain ⟨hP, hD⟩ := wPD [(h0, .inr (9, fs0)), (h1, .inr (1, fs1)), (h2, .inr (8, [v0, v1, .ref p0, .ref p1, v4, .int n])), (p0, .inl (T 1, 676, .inr (.inl f_95))), (p1, .inl (T 1, 676, .inr (.inl f_96))), (h3, .inl (T 7, 4, .inr (.inr (.inr (.inr (va_up (va_up (va_up (va_up (fun _ => none) 0 (some t0)) 1 (some t1)) 2 (some t2)) 3 (some t3))))))), (t0, .inr (3, [.int (jz 0), .int (jn 0), .long (ja 0), .long (jb 0)])), (t1, .inr (3, [.int x2, .int (x3.toInt32), .long z_97, .long z_98])), (t2, .inr (3, [.int (jz 2), .int (jn 2), .long (ja 2), .long (jb 2)])), (t3, .inr (3, [.int (jz 3), .int (jn 3), .long (ja 3), .long (jb 3)]))] hP hD rfl
                    refine lv_iload hx hb dX12_hold_152 (lv_at hl 0 rfl) ?_
                    exact W.iret hx hb hr (fun t ht hW => ⟨⟨_, (f_95, f_96, (fun k => [(jz 0), x2, (jz 2), (jz 3)].getD k 0), (fun k => [(jn 0), (x3.toInt32), (jn 2), (jn 3)].getD k 0), (fun k => [(ja 0), z_97, (ja 2), (ja 3)].getD k 0), (fun k => [(jb 0), z_98, (jb 2), (jb 3)].getD k 0)), rfl, (Or.inr ⟨⟨⟨by decide, by decide⟩, by omega, (fun h9 => by omega), (fun h9 => by omega)⟩, rfl, all4' ⟨(fun h9 => absurd h9 (by decide +kernel)), (fun _ => ⟨rfl, rfl⟩)⟩ ⟨(fun _ => ⟨rfl, (fun h9 => by first | rfl | (exfalso; omega))⟩), (fun h9 => absurd (by decide +kernel) h9)⟩ ⟨(fun h9 => absurd h9 (by decide +kernel)), (fun _ => ⟨rfl, rfl⟩)⟩ ⟨(fun h9 => absurd h9 (by decide +kernel)), (fun _ => ⟨rfl, rfl⟩)⟩⟩), by rw [ht]; exact hP.sub [0, 1, 2, 3, 4, 5, 6, 7, 8, 9] rfl, hD.sub [0, 1, 2, 3, 4, 5, 6, 7, 8, 9] (by decide +kernel) rfl⟩, hS.F ht⟩) hS.2.2 dX12_hold_154
              · refine va_aldq hx hb hE.1 hP 5 7 rfl rfl (by unfold vp_in; decide) dX12_hold_74 ?_
                refine W.eq (g2 := F0 m 75 ls [.ref t2]) rfl ?_
                refine lv_astore (lv' := [(7, .ref t2), (0, .ref h0), (1, .int 2), (2, .int x2), (3, .long x3), (5, .long x4)]) hx hb dX12_hold_75 hl (by decide +kernel) rfl (fun ls hl => ?_)
                refine lv_aload hx hb dX12_hold_77 (lv_at hl 0 rfl) ?_
                refine va_get (D := D) (ci := 3) (v := .int (jz 2)) (C := RX4) (T := TX4) (N := 4) hx hb hts in_X12_hold_X4 hown hE.1 hP 8 rfl rfl 0 (by decide +kernel) (hts (.fieldLink RX12 359 "ClauseBook$Hand" "sort" "I") (List.mem_of_getElem? (i := 5) rfl)) (fun _ h9 => h9) rfl dX12_hold_79 ?_
                refine lv_istore (lv' := [(8, .int (jz 2)), (7, .ref t2), (0, .ref h0), (1, .int 2), (2, .int x2), (3, .long x3), (5, .long x4)]) hx hb dX12_hold_82 hl (by decide +kernel) rfl (fun ls hl => ?_)
                refine lv_aload hx hb dX12_hold_84 (lv_at hl 1 rfl) ?_
                refine lv_iload_n hx hb dX12_hold_86 rfl (lv_at hl 4 rfl) ?_
                refine va_put (D := D) (ci := 3) (v := .int x2) (ty := .int) (C := RX4) (T := TX4) (N := 4) hx hb hts in_X12_hold_X4 tyX4 tyX4_ok nmX4 hown hE.1 hP hD hS 8 rfl rfl 0 (by decide +kernel) (hts (.fieldLink RX12 359 "ClauseBook$Hand" "sort" "I") (List.mem_of_getElem? (i := 5) rfl)) (fun _ h9 => h9) rfl (by decide +kernel) rfl rfl (Nat.le_of_ble_eq_true rfl) dX12_hold_87 (fun H locs hP hD hS => ?_)
                obtain ⟨hP, hD⟩ := wPD [(h0, .inr (9, fs0)), (h1, .inr (1, fs1)), (h2, .inr (8, [v0, v1, .ref p0, .ref p1, v4, .int n])), (p0, .inl (T 1, 676, .inr (.inl f0))), (p1, .inl (T 1, 676, .inr (.inl f1))), (h3, .inl (T 7, 4, .inr (.inr (.inr (.inr (va_up (va_up (va_up (va_up (fun _ => none) 0 (some t0)) 1 (some t1)) 2 (some t2)) 3 (some t3))))))), (t0, .inr (3, [.int (jz 0), .int (jn 0), .long (ja 0), .long (jb 0)])), (t1, .inr (3, [.int (jz 1), .int (jn 1), .long (ja 1), .long (jb 1)])), (t2, .inr (3, [.int x2, .int (jn 2), .long (ja 2), .long (jb 2)])), (t3, .inr (3, [.int (jz 3), .int (jn 3), .long (ja 3), .long (jb 3)]))] hP hD rfl
                refine lv_iload_n hx hb dX12_hold_90 rfl (lv_at hl 4 rfl) ?_
                refine lv_iconst (v := 1) hx hb dX12_hold_91 (by decide +kernel) ?_
                refine lv_icmp_ne (tgt := 102) hx hb dX12_hold_92 (by decide +kernel) (fun c_99 => ?_) (fun c_99 => ?_)
                · rw [fa_eq] at c_99
                  try rw [ti_1] at c_99
                  refine lv_iload_n hx hb dX12_hold_102 rfl (lv_at hl 4 rfl) ?_
                  refine lv_iconst (v := 2) hx hb dX12_hold_103 (by decide +kernel) ?_
                  refine lv_icmp_ne (tgt := 152) hx hb dX12_hold_104 (by decide +kernel) (fun c_100 => ?_) (fun c_100 => ?_)
                  · rw [fa_eq] at c_100
                    try rw [ti_2] at c_100
                    refine lv_iload hx hb dX12_hold_152 (lv_at hl 0 rfl) ?_
                    exact W.iret hx hb hr (fun t ht hW => ⟨⟨_, (f0, f1, (fun k => [(jz 0), (jz 1), x2, (jz 3)].getD k 0), (fun k => [(jn 0), (jn 1), (jn 2), (jn 3)].getD k 0), (fun k => [(ja 0), (ja 1), (ja 2), (ja 3)].getD k 0), (fun k => [(jb 0), (jb 1), (jb 2), (jb 3)].getD k 0)), rfl, (Or.inr ⟨⟨⟨by decide, by decide⟩, by omega, (fun h9 => by omega), (fun h9 => by omega)⟩, rfl, all4' ⟨(fun h9 => absurd h9 (by decide +kernel)), (fun _ => ⟨rfl, rfl⟩)⟩ ⟨(fun h9 => absurd h9 (by decide +kernel)), (fun _ => ⟨rfl, rfl⟩)⟩ ⟨(fun _ => ⟨rfl, (fun h9 => by first | rfl | (exfalso; omega))⟩), (fun h9 => absurd (by decide +kernel) h9)⟩ ⟨(fun h9 => absurd h9 (by decide +kernel)), (fun _ => ⟨rfl, rfl⟩)⟩⟩), by rw [ht]; exact hP.sub [0, 1, 2, 3, 4, 5, 6, 7, 8, 9] rfl, hD.sub [0, 1, 2, 3, 4, 5, 6, 7, 8, 9] (by decide +kernel) rfl⟩, hS.F ht⟩) hS.2.2 dX12_hold_154
                  · rw [fa_eq] at c_100
                    try rw [ti_2] at c_100
                    refine lv_aload_n hx hb dX12_hold_107 rfl (lv_at hl 2 rfl) ?_
                    refine va_get (D := D) (ci := 9) (v := .ref h2) (C := RX12) (T := TX12) (N := 11) hx hb hts in_X12_hold_X12 hown hE.1 hP 0 rfl rfl 6 (by decide +kernel) (hts (.fieldLink RX12 43 "ClauseBook" "worth" "LClauseBook$Worth;") (List.mem_of_getElem? (i := 7) rfl)) (fun _ h9 => h9) e0_6 dX12_hold_108 ?_
                    refine lv_sipush (v := 675) hx hb dX12_hold_111 (by decide +kernel) ?_
                    refine lv_lload_n hx hb dX12_hold_114 rfl (lv_at hl 5 rfl) ?_
                    refine lv_lload hx hb dX12_hold_115 (lv_at hl 6 rfl) ?_
                    have hFc := va_free (wc := [(h2, .inr (8, [v0, v1, .ref p0, .ref p1, v4, .int n])), (p0, .inl (T 1, 676, .inr (.inl f0))), (p1, .inl (T 1, 676, .inr (.inl f1)))]) hD hS hA [2, 3, 4] rfl
                    refine va_callv (va_runV (As := [.int 675, .long x3, .long x4]) (rest := []) ⟨hx, hb, hml, hown, hts⟩ (c_X11_reduce l D T _ h2 p0 p1 (v0) (v1) (v4) n f0 f1 675 x3 x4 (by first | decide | omega)) (cwV 3 hts gX12_hold_X11_reduce rfl rfl rfl hv_X11_reduce ⟨Nat.le_of_ble_eq_true rfl, Nat.le_of_ble_eq_true rfl⟩) (pW_V (q := (RX11, TX11, 6)) (ci := 8) (q0 := 2) hP hE hD rfl rfl [2, 3, 4] (by decide +kernel) rfl rfl) rfl rfl hl.1 rfl (lv_room (Nat.le_of_ble_eq_true rfl)) dX12_hold_117 ⟨Nat.le_of_ble_eq_true rfl, Nat.le_of_ble_eq_true rfl⟩) hS (fun q _ h => hFc q h) hFc (fun u_102 t H1 locs ht hvm hr_101 hB hz1 hk1 hS => ?_)
                    obtain ⟨f_103, f_104⟩ := u_102
                    obtain ⟨hP1, hD1⟩ := hB
                    rw [ht] at hP1
                    obtain ⟨hP, hD⟩ := va_repl [(h0, .inr (9, fs0)), (h1, .inr (1, fs1)), (h2, .inr (8, [v0, v1, .ref p0, .ref p1, v4, .int n])), (p0, .inl (T 1, 676, .inr (.inl f_103))), (p1, .inl (T 1, 676, .inr (.inl f_104))), (h3, .inl (T 7, 4, .inr (.inr (.inr (.inr (va_up (va_up (va_up (va_up (fun _ => none) 0 (some t0)) 1 (some t1)) 2 (some t2)) 3 (some t3))))))), (t0, .inr (3, [.int (jz 0), .int (jn 0), .long (ja 0), .long (jb 0)])), (t1, .inr (3, [.int (jz 1), .int (jn 1), .long (ja 1), .long (jb 1)])), (t2, .inr (3, [.int x2, .int (jn 2), .long (ja 2), .long (jb 2)])), (t3, .inr (3, [.int (jz 3), .int (jn 3), .long (ja 3), .long (jb 3)]))] hP hD [2, 3, 4] [2, 3, 4] rfl (by decide +kernel) rfl rfl rfl hk1 hP1
                    clear hP1 hD1 hFc
                    generalize H1 = H at hP hS ⊢
                    refine lv_aload hx hb dX12_hold_120 (lv_at hl 1 rfl) ?_
                    refine lv_aload_n hx hb dX12_hold_122 rfl (lv_at hl 2 rfl) ?_
                    refine va_get (D := D) (ci := 9) (v := .ref h2) (C := RX12) (T := TX12) (N := 11) hx hb hts in_X12_hold_X12 hown hE.1 hP 0 rfl rfl 6 (by decide +kernel) (hts (.fieldLink RX12 43 "ClauseBook" "worth" "LClauseBook$Worth;") (List.mem_of_getElem? (i := 7) rfl)) (fun _ h9 => h9) e0_6 dX12_hold_123 ?_
                    refine va_get (D := D) (ci := 8) (v := .ref p0) (C := RX11) (T := TX11) (N := 6) hx hb hts in_X12_hold_X11 hown hE.1 hP 2 rfl rfl 2 (by decide +kernel) (hts (.fieldLink RX12 202 "ClauseBook$Worth" "above" "[J") (List.mem_of_getElem? (i := 8) rfl)) (fun _ h9 => h9) rfl dX12_hold_126 ?_
                    refine lv_sipush (v := 675) hx hb dX12_hold_129 (by decide +kernel) ?_
                    refine va_lald hx hb hE.1 hP 3 1 rfl rfl (by unfold vp_in; decide) dX12_hold_132 ?_
                    refine lv_topl (fun z_105 ez_105 => ?_)
                    refine va_put (D := D) (ci := 3) (v := .long z_105) (ty := .long) (C := RX4) (T := TX4) (N := 4) hx hb hts in_X12_hold_X4 tyX4 tyX4_ok nmX4 hown hE.1 hP hD hS 8 rfl rfl 2 (by decide +kernel) (hts (.fieldLink RX12 365 "ClauseBook$Hand" "above" "J") (List.mem_of_getElem? (i := 9) rfl)) (fun _ h9 => h9) rfl (by decide +kernel) rfl rfl (Nat.le_of_ble_eq_true rfl) dX12_hold_133 (fun H locs hP hD hS => ?_)
                    obtain ⟨hP, hD⟩ := wPD [(h0, .inr (9, fs0)), (h1, .inr (1, fs1)), (h2, .inr (8, [v0, v1, .ref p0, .ref p1, v4, .int n])), (p0, .inl (T 1, 676, .inr (.inl f_103))), (p1, .inl (T 1, 676, .inr (.inl f_104))), (h3, .inl (T 7, 4, .inr (.inr (.inr (.inr (va_up (va_up (va_up (va_up (fun _ => none) 0 (some t0)) 1 (some t1)) 2 (some t2)) 3 (some t3))))))), (t0, .inr (3, [.int (jz 0), .int (jn 0), .long (ja 0), .long (jb 0)])), (t1, .inr (3, [.int (jz 1), .int (jn 1), .long (ja 1), .long (jb 1)])), (t2, .inr (3, [.int x2, .int (jn 2), .long z_105, .long (jb 2)])), (t3, .inr (3, [.int (jz 3), .int (jn 3), .long (ja 3), .long (jb 3)]))] hP hD rfl
                    refine lv_aload hx hb dX12_hold_136 (lv_at hl 1 rfl) ?_
                    refine lv_aload_n hx hb dX12_hold_138 rfl (lv_at hl 2 rfl) ?_
                    refine va_get (D := D) (ci := 9) (v := .ref h2) (C := RX12) (T := TX12) (N := 11) hx hb hts in_X12_hold_X12 hown hE.1 hP 0 rfl rfl 6 (by decide +kernel) (hts (.fieldLink RX12 43 "ClauseBook" "worth" "LClauseBook$Worth;") (List.mem_of_getElem? (i := 7) rfl)) (fun _ h9 => h9) e0_6 dX12_hold_139 ?_
                    refine va_get (D := D) (ci := 8) (v := .ref p1) (C := RX11) (T := TX11) (N := 6) hx hb hts in_X12_hold_X11 hown hE.1 hP 2 rfl rfl 3 (by decide +kernel) (hts (.fieldLink RX12 206 "ClauseBook$Worth" "below" "[J") (List.mem_of_getElem? (i := 10) rfl)) (fun _ h9 => h9) rfl dX12_hold_142 ?_
                    refine lv_sipush (v := 675) hx hb dX12_hold_145 (by decide +kernel) ?_
                    refine va_lald hx hb hE.1 hP 4 1 rfl rfl (by unfold vp_in; decide) dX12_hold_148 ?_
                    refine lv_topl (fun z_106 ez_106 => ?_)
                    refine va_put (D := D) (ci := 3) (v := .long z_106) (ty := .long) (C := RX4) (T := TX4) (N := 4) hx hb hts in_X12_hold_X4 tyX4 tyX4_ok nmX4 hown hE.1 hP hD hS 8 rfl rfl 3 (by decide +kernel) (hts (.fieldLink RX12 368 "ClauseBook$Hand" "below" "J") (List.mem_of_getElem? (i := 11) rfl)) (fun _ h9 => h9) rfl (by decide +kernel) rfl rfl (Nat.le_of_ble_eq_true rfl) dX12_hold_149 (fun H locs hP hD hS => ?_)
                    obtain ⟨hP, hD⟩ := wPD [(h0, .inr (9, fs0)), (h1, .inr (1, fs1)), (h2, .inr (8, [v0, v1, .ref p0, .ref p1, v4, .int n])), (p0, .inl (T 1, 676, .inr (.inl f_103))), (p1, .inl (T 1, 676, .inr (.inl f_104))), (h3, .inl (T 7, 4, .inr (.inr (.inr (.inr (va_up (va_up (va_up (va_up (fun _ => none) 0 (some t0)) 1 (some t1)) 2 (some t2)) 3 (some t3))))))), (t0, .inr (3, [.int (jz 0), .int (jn 0), .long (ja 0), .long (jb 0)])), (t1, .inr (3, [.int (jz 1), .int (jn 1), .long (ja 1), .long (jb 1)])), (t2, .inr (3, [.int x2, .int (jn 2), .long z_105, .long z_106])), (t3, .inr (3, [.int (jz 3), .int (jn 3), .long (ja 3), .long (jb 3)]))] hP hD rfl
                    refine lv_iload hx hb dX12_hold_152 (lv_at hl 0 rfl) ?_
                    exact W.iret hx hb hr (fun t ht hW => ⟨⟨_, (f_103, f_104, (fun k => [(jz 0), (jz 1), x2, (jz 3)].getD k 0), (fun k => [(jn 0), (jn 1), (jn 2), (jn 3)].getD k 0), (fun k => [(ja 0), (ja 1), z_105, (ja 3)].getD k 0), (fun k => [(jb 0), (jb 1), z_106, (jb 3)].getD k 0)), rfl, (Or.inr ⟨⟨⟨by decide, by decide⟩, by omega, (fun h9 => by omega), (fun h9 => by omega)⟩, rfl, all4' ⟨(fun h9 => absurd h9 (by decide +kernel)), (fun _ => ⟨rfl, rfl⟩)⟩ ⟨(fun h9 => absurd h9 (by decide +kernel)), (fun _ => ⟨rfl, rfl⟩)⟩ ⟨(fun _ => ⟨rfl, (fun h9 => by first | rfl | (exfalso; omega))⟩), (fun h9 => absurd (by decide +kernel) h9)⟩ ⟨(fun h9 => absurd h9 (by decide +kernel)), (fun _ => ⟨rfl, rfl⟩)⟩⟩), by rw [ht]; exact hP.sub [0, 1, 2, 3, 4, 5, 6, 7, 8, 9] rfl, hD.sub [0, 1, 2, 3, 4, 5, 6, 7, 8, 9] (by decide +kernel) rfl⟩, hS.F ht⟩) hS.2.2 dX12_hold_154
                · rw [fa_eq] at c_99
                  try rw [ti_1] at c_99
                  refine lv_aload hx hb dX12_hold_95 (lv_at hl 1 rfl) ?_
                  refine lv_lload_n hx hb dX12_hold_97 rfl (lv_at hl 5 rfl) ?_
                  refine lv_l2i hx hb dX12_hold_98 rfl ?_
                  refine va_put (D := D) (ci := 3) (v := .int (x3.toInt32)) (ty := .int) (C := RX4) (T := TX4) (N := 4) hx hb hts in_X12_hold_X4 tyX4 tyX4_ok nmX4 hown hE.1 hP hD hS 8 rfl rfl 1 (by decide +kernel) (hts (.fieldLink RX12 360 "ClauseBook$Hand" "number" "I") (List.mem_of_getElem? (i := 6) rfl)) (fun _ h9 => h9) rfl (by decide +kernel) rfl rfl (Nat.le_of_ble_eq_true rfl) dX12_hold_99 (fun H locs hP hD hS => ?_)
                  obtain ⟨hP, hD⟩ := wPD [(h0, .inr (9, fs0)), (h1, .inr (1, fs1)), (h2, .inr (8, [v0, v1, .ref p0, .ref p1, v4, .int n])), (p0, .inl (T 1, 676, .inr (.inl f0))), (p1, .inl (T 1, 676, .inr (.inl f1))), (h3, .inl (T 7, 4, .inr (.inr (.inr (.inr (va_up (va_up (va_up (va_up (fun _ => none) 0 (some t0)) 1 (some t1)) 2 (some t2)) 3 (some t3))))))), (t0, .inr (3, [.int (jz 0), .int (jn 0), .long (ja 0), .long (jb 0)])), (t1, .inr (3, [.int (jz 1), .int (jn 1), .long (ja 1), .long (jb 1)])), (t2, .inr (3, [.int x2, .int (x3.toInt32), .long (ja 2), .long (jb 2)])), (t3, .inr (3, [.int (jz 3), .int (jn 3), .long (ja 3), .long (jb 3)]))] hP hD rfl
                  refine lv_iload_n hx hb dX12_hold_102 rfl (lv_at hl 4 rfl) ?_
                  refine lv_iconst (v := 2) hx hb dX12_hold_103 (by decide +kernel) ?_
                  refine lv_icmp_ne (tgt := 152) hx hb dX12_hold_104 (by decide +kernel) (fun c_107 => ?_) (fun c_107 => ?_)
                  · rw [fa_eq] at c_107
                    try rw [ti_2] at c_107
                    refine lv_iload hx hb dX12_hold_152 (lv_at hl 0 rfl) ?_
                    exact W.iret hx hb hr (fun t ht hW => ⟨⟨_, (f0, f1, (fun k => [(jz 0), (jz 1), x2, (jz 3)].getD k 0), (fun k => [(jn 0), (jn 1), (x3.toInt32), (jn 3)].getD k 0), (fun k => [(ja 0), (ja 1), (ja 2), (ja 3)].getD k 0), (fun k => [(jb 0), (jb 1), (jb 2), (jb 3)].getD k 0)), rfl, (Or.inr ⟨⟨⟨by decide, by decide⟩, by omega, (fun h9 => by omega), (fun h9 => by omega)⟩, rfl, all4' ⟨(fun h9 => absurd h9 (by decide +kernel)), (fun _ => ⟨rfl, rfl⟩)⟩ ⟨(fun h9 => absurd h9 (by decide +kernel)), (fun _ => ⟨rfl, rfl⟩)⟩ ⟨(fun _ => ⟨rfl, (fun h9 => by first | rfl | (exfalso; omega))⟩), (fun h9 => absurd (by decide +kernel) h9)⟩ ⟨(fun h9 => absurd h9 (by decide +kernel)), (fun _ => ⟨rfl, rfl⟩)⟩⟩), by rw [ht]; exact hP.sub [0, 1, 2, 3, 4, 5, 6, 7, 8, 9] rfl, hD.sub [0, 1, 2, 3, 4, 5, 6, 7, 8, 9] (by decide +kernel) rfl⟩, hS.F ht⟩) hS.2.2 dX12_hold_154
                  · rw [fa_eq] at c_107
                    try rw [ti_2] at c_107
                    refine lv_aload_n hx hb dX12_hold_107 rfl (lv_at hl 2 rfl) ?_
                    refine va_get (D := D) (ci := 9) (v := .ref h2) (C := RX12) (T := TX12) (N := 11) hx hb hts in_X12_hold_X12 hown hE.1 hP 0 rfl rfl 6 (by decide +kernel) (hts (.fieldLink RX12 43 "ClauseBook" "worth" "LClauseBook$Worth;") (List.mem_of_getElem? (i := 7) rfl)) (fun _ h9 => h9) e0_6 dX12_hold_108 ?_
                    refine lv_sipush (v := 675) hx hb dX12_hold_111 (by decide +kernel) ?_
                    refine lv_lload_n hx hb dX12_hold_114 rfl (lv_at hl 5 rfl) ?_
                    refine lv_lload hx hb dX12_hold_115 (lv_at hl 6 rfl) ?_
                    have hFc := va_free (wc := [(h2, .inr (8, [v0, v1, .ref p0, .ref p1, v4, .int n])), (p0, .inl (T 1, 676, .inr (.inl f0))), (p1, .inl (T 1, 676, .inr (.inl f1)))]) hD hS hA [2, 3, 4] rfl
                    refine va_callv (va_runV (As := [.int 675, .long x3, .long x4]) (rest := []) ⟨hx, hb, hml, hown, hts⟩ (c_X11_reduce l D T _ h2 p0 p1 (v0) (v1) (v4) n f0 f1 675 x3 x4 (by first | decide | omega)) (cwV 3 hts gX12_hold_X11_reduce rfl rfl rfl hv_X11_reduce ⟨Nat.le_of_ble_eq_true rfl, Nat.le_of_ble_eq_true rfl⟩) (pW_V (q := (RX11, TX11, 6)) (ci := 8) (q0 := 2) hP hE hD rfl rfl [2, 3, 4] (by decide +kernel) rfl rfl) rfl rfl hl.1 rfl (lv_room (Nat.le_of_ble_eq_true rfl)) dX12_hold_117 ⟨Nat.le_of_ble_eq_true rfl, Nat.le_of_ble_eq_true rfl⟩) hS (fun q _ h => hFc q h) hFc (fun u_109 t H1 locs ht hvm hr_108 hB hz1 hk1 hS => ?_)
                    obtain ⟨f_110, f_111⟩ := u_109
                    obtain ⟨hP1, hD1⟩ := hB
                    rw [ht] at hP1
                    obtain ⟨hP, hD⟩ := va_repl [(h0, .inr (9, fs0)), (h1, .inr (1, fs1)), (h2, .inr (8, [v0, v1, .ref p0, .ref p1, v4, .int n])), (p0, .inl (T 1, 676, .inr (.inl f_110))), (p1, .inl (T 1, 676, .inr (.inl f_111))), (h3, .inl (T 7, 4, .inr (.inr (.inr (.inr (va_up (va_up (va_up (va_up (fun _ => none) 0 (some t0)) 1 (some t1)) 2 (some t2)) 3 (some t3))))))), (t0, .inr (3, [.int (jz 0), .int (jn 0), .long (ja 0), .long (jb 0)])), (t1, .inr (3, [.int (jz 1), .int (jn 1), .long (ja 1), .long (jb 1)])), (t2, .inr (3, [.int x2, .int (x3.toInt32), .long (ja 2), .long (jb 2)])), (t3, .inr (3, [.int (jz 3), .int (jn 3), .long (ja 3), .long (jb 3)]))] hP hD [2, 3, 4] [2, 3, 4] rfl (by decide +kernel) rfl rfl rfl hk1 hP1
                    clear hP1 hD1 hFc
                    generalize H1 = H at hP hS ⊢
                    refine lv_aload hx hb dX12_hold_120 (lv_at hl 1 rfl) ?_
                    refine lv_aload_n hx hb dX12_hold_122 rfl (lv_at hl 2 rfl) ?_
                    refine va_get (D := D) (ci := 9) (v := .ref h2) (C := RX12) (T := TX12) (N := 11) hx hb hts in_X12_hold_X12 hown hE.1 hP 0 rfl rfl 6 (by decide +kernel) (hts (.fieldLink RX12 43 "ClauseBook" "worth" "LClauseBook$Worth;") (List.mem_of_getElem? (i := 7) rfl)) (fun _ h9 => h9) e0_6 dX12_hold_123 ?_
                    refine va_get (D := D) (ci := 8) (v := .ref p0) (C := RX11) (T := TX11) (N := 6) hx hb hts in_X12_hold_X11 hown hE.1 hP 2 rfl rfl 2 (by decide +kernel) (hts (.fieldLink RX12 202 "ClauseBook$Worth" "above" "[J") (List.mem_of_getElem? (i := 8) rfl)) (fun _ h9 => h9) rfl dX12_hold_126 ?_
                    refine lv_sipush (v := 675) hx hb dX12_hold_129 (by decide +kernel) ?_
                    refine va_lald hx hb hE.1 hP 3 1 rfl rfl (by unfold vp_in; decide) dX12_hold_132 ?_
                    refine lv_topl (fun z_112 ez_112 => ?_)
                    refine va_put (D := D) (ci := 3) (v := .long z_112) (ty := .long) (C := RX4) (T := TX4) (N := 4) hx hb hts in_X12_hold_X4 tyX4 tyX4_ok nmX4 hown hE.1 hP hD hS 8 rfl rfl 2 (by decide +kernel) (hts (.fieldLink RX12 365 "ClauseBook$Hand" "above" "J") (List.mem_of_getElem? (i := 9) rfl)) (fun _ h9 => h9) rfl (by decide +kernel) rfl rfl (Nat.le_of_ble_eq_true rfl) dX12_hold_133 (fun H locs hP hD hS => ?_)
                    obtain ⟨hP, hD⟩ := wPD [(h0, .inr (9, fs0)), (h1, .inr (1, fs1)), (h2, .inr (8, [v0, v1, .ref p0, .ref p1, v4, .int n])), (p0, .inl (T 1, 676, .inr (.inl f_110))), (p1, .inl (T 1, 676, .inr (.inl f_111))), (h3, .inl (T 7, 4, .inr (.inr (.inr (.inr (va_up (va_up (va_up (va_up (fun _ => none) 0 (some t0)) 1 (some t1)) 2 (some t2)) 3 (some t3))))))), (t0, .inr (3, [.int (jz 0), .int (jn 0), .long (ja 0), .long (jb 0)])), (t1, .inr (3, [.int (jz 1), .int (jn 1), .long (ja 1), .long (jb 1)])), (t2, .inr (3, [.int x2, .int (x3.toInt32), .long z_112, .long (jb 2)])), (t3, .inr (3, [.int (jz 3), .int (jn 3), .long (ja 3), .long (jb 3)]))] hP hD rfl
                    refine lv_aload hx hb dX12_hold_136 (lv_at hl 1 rfl) ?_
                    refine lv_aload_n hx hb dX12_hold_138 rfl (lv_at hl 2 rfl) ?_
                    refine va_get (D := D) (ci := 9) (v := .ref h2) (C := RX12) (T := TX12) (N := 11) hx hb hts in_X12_hold_X12 hown hE.1 hP 0 rfl rfl 6 (by decide +kernel) (hts (.fieldLink RX12 43 "ClauseBook" "worth" "LClauseBook$Worth;") (List.mem_of_getElem? (i := 7) rfl)) (fun _ h9 => h9) e0_6 dX12_hold_139 ?_
                    refine va_get (D := D) (ci := 8) (v := .ref p1) (C := RX11) (T := TX11) (N := 6) hx hb hts in_X12_hold_X11 hown hE.1 hP 2 rfl rfl 3 (by decide +kernel) (hts (.fieldLink RX12 206 "ClauseBook$Worth" "below" "[J") (List.mem_of_getElem? (i := 10) rfl)) (fun _ h9 => h9) rfl dX12_hold_142 ?_
                    refine lv_sipush (v := 675) hx hb dX12_hold_145 (by decide +kernel) ?_
                    refine va_lald hx hb hE.1 hP 4 1 rfl rfl (by unfold vp_in; decide) dX12_hold_148 ?_
                    refine lv_topl (fun z_113 ez_113 => ?_)
                    refine va_put (D := D) (ci := 3) (v := .long z_113) (ty := .long) (C := RX4) (T := TX4) (N := 4) hx hb hts in_X12_hold_X4 tyX4 tyX4_ok nmX4 hown hE.1 hP hD hS 8 rfl rfl 3 (by decide +kernel) (hts (.fieldLink RX12 368 "ClauseBook$Hand" "below" "J") (List.mem_of_getElem? (i := 11) rfl)) (fun _ h9 => h9) rfl (by decide +kernel) rfl rfl (Nat.le_of_ble_eq_true rfl) dX12_hold_149 (fun H locs hP hD hS => ?_)
                    obtain ⟨hP, hD⟩ := wPD [(h0, .inr (9, fs0)), (h1, .inr (1, fs1)), (h2, .inr (8, [v0, v1, .ref p0, .ref p1, v4, .int n])), (p0, .inl (T 1, 676, .inr (.inl f_110))), (p1, .inl (T 1, 676, .inr (.inl f_111))), (h3, .inl (T 7, 4, .inr (.inr (.inr (.inr (va_up (va_up (va_up (va_up (fun _ => none) 0 (some t0)) 1 (some t1)) 2 (some t2)) 3 (some t3))))))), (t0, .inr (3, [.int (jz 0), .int (jn 0), .long (ja 0), .long (jb 0)])), (t1, .inr (3, [.int (jz 1), .int (jn 1), .long (ja 1), .long (jb 1)])), (t2, .inr (3, [.int x2, .int (x3.toInt32), .long z_112, .long z_113])), (t3, .inr (3, [.int (jz 3), .int (jn 3), .long (ja 3), .long (jb 3)]))] hP hD rfl
                    refine lv_iload hx hb dX12_hold_152 (lv_at hl 0 rfl) ?_
                    exact W.iret hx hb hr (fun t ht hW => ⟨⟨_, (f_110, f_111, (fun k => [(jz 0), (jz 1), x2, (jz 3)].getD k 0), (fun k => [(jn 0), (jn 1), (x3.toInt32), (jn 3)].getD k 0), (fun k => [(ja 0), (ja 1), z_112, (ja 3)].getD k 0), (fun k => [(jb 0), (jb 1), z_113, (jb 3)].getD k 0)), rfl, (Or.inr ⟨⟨⟨by decide, by decide⟩, by omega, (fun h9 => by omega), (fun h9 => by omega)⟩, rfl, all4' ⟨(fun h9 => absurd h9 (by decide +kernel)), (fun _ => ⟨rfl, rfl⟩)⟩ ⟨(fun h9 => absurd h9 (by decide +kernel)), (fun _ => ⟨rfl, rfl⟩)⟩ ⟨(fun _ => ⟨rfl, (fun h9 => by first | rfl | (exfalso; omega))⟩), (fun h9 => absurd (by decide +kernel) h9)⟩ ⟨(fun h9 => absurd h9 (by decide +kernel)), (fun _ => ⟨rfl, rfl⟩)⟩⟩), by rw [ht]; exact hP.sub [0, 1, 2, 3, 4, 5, 6, 7, 8, 9] rfl, hD.sub [0, 1, 2, 3, 4, 5, 6, 7, 8, 9] (by decide +kernel) rfl⟩, hS.F ht⟩) hS.2.2 dX12_hold_154
              · refine va_aldq hx hb hE.1 hP 5 7 rfl rfl (by unfold vp_in; decide) dX12_hold_74 ?_
                refine W.eq (g2 := F0 m 75 ls [.ref t3]) rfl ?_
                refine lv_astore (lv' := [(7, .ref t3), (0, .ref h0), (1, .int 3), (2, .int x2), (3, .long x3), (5, .long x4)]) hx hb dX12_hold_75 hl (by decide +kernel) rfl (fun ls hl => ?_)
                refine lv_aload hx hb dX12_hold_77 (lv_at hl 0 rfl) ?_
                refine va_get (D := D) (ci := 3) (v := .int (jz 3)) (C := RX4) (T := TX4) (N := 4) hx hb hts in_X12_hold_X4 hown hE.1 hP 9 rfl rfl 0 (by decide +kernel) (hts (.fieldLink RX12 359 "ClauseBook$Hand" "sort" "I") (List.mem_of_getElem? (i := 5) rfl)) (fun _ h9 => h9) rfl dX12_hold_79 ?_
                refine lv_istore (lv' := [(8, .int (jz 3)), (7, .ref t3), (0, .ref h0), (1, .int 3), (2, .int x2), (3, .long x3), (5, .long x4)]) hx hb dX12_hold_82 hl (by decide +kernel) rfl (fun ls hl => ?_)
                refine lv_aload hx hb dX12_hold_84 (lv_at hl 1 rfl) ?_
                refine lv_iload_n hx hb dX12_hold_86 rfl (lv_at hl 4 rfl) ?_
                refine va_put (D := D) (ci := 3) (v := .int x2) (ty := .int) (C := RX4) (T := TX4) (N := 4) hx hb hts in_X12_hold_X4 tyX4 tyX4_ok nmX4 hown hE.1 hP hD hS 9 rfl rfl 0 (by decide +kernel) (hts (.fieldLink RX12 359 "ClauseBook$Hand" "sort" "I") (List.mem_of_getElem? (i := 5) rfl)) (fun _ h9 => h9) rfl (by decide +kernel) rfl rfl (Nat.le_of_ble_eq_true rfl) dX12_hold_87 (fun H locs hP hD hS => ?_)
                obtain ⟨hP, hD⟩ := wPD [(h0, .inr (9, fs0)), (h1, .inr (1, fs1)), (h2, .inr (8, [v0, v1, .ref p0, .ref p1, v4, .int n])), (p0, .inl (T 1, 676, .inr (.inl f0))), (p1, .inl (T 1, 676, .inr (.inl f1))), (h3, .inl (T 7, 4, .inr (.inr (.inr (.inr (va_up (va_up (va_up (va_up (fun _ => none) 0 (some t0)) 1 (some t1)) 2 (some t2)) 3 (some t3))))))), (t0, .inr (3, [.int (jz 0), .int (jn 0), .long (ja 0), .long (jb 0)])), (t1, .inr (3, [.int (jz 1), .int (jn 1), .long (ja 1), .long (jb 1)])), (t2, .inr (3, [.int (jz 2), .int (jn 2), .long (ja 2), .long (jb 2)])), (t3, .inr (3, [.int x2, .int (jn 3), .long (ja 3), .long (jb 3)]))] hP hD rfl
                refine lv_iload_n hx hb dX12_hold_90 rfl (lv_at hl 4 rfl) ?_
                refine lv_iconst (v := 1) hx hb dX12_hold_91 (by decide +kernel) ?_
                refine lv_icmp_ne (tgt := 102) hx hb dX12_hold_92 (by decide +kernel) (fun c_114 => ?_) (fun c_114 => ?_)
                · rw [fa_eq] at c_114
                  try rw [ti_1] at c_114
                  refine lv_iload_n hx hb dX12_hold_102 rfl (lv_at hl 4 rfl) ?_
                  refine lv_iconst (v := 2) hx hb dX12_hold_103 (by decide +kernel) ?_
                  refine lv_icmp_ne (tgt := 152) hx hb dX12_hold_104 (by decide +kernel) (fun c_115 => ?_) (fun c_115 => ?_)
                  · rw [fa_eq] at c_115
                    try rw [ti_2] at c_115
                    refine lv_iload hx hb dX12_hold_152 (lv_at hl 0 rfl) ?_
                    exact W.iret hx hb hr (fun t ht hW => ⟨⟨_, (f0, f1, (fun k => [(jz 0), (jz 1), (jz 2), x2].getD k 0), (fun k => [(jn 0), (jn 1), (jn 2), (jn 3)].getD k 0), (fun k => [(ja 0), (ja 1), (ja 2), (ja 3)].getD k 0), (fun k => [(jb 0), (jb 1), (jb 2), (jb 3)].getD k 0)), rfl, (Or.inr ⟨⟨⟨by decide, by decide⟩, by omega, (fun h9 => by omega), (fun h9 => by omega)⟩, rfl, all4' ⟨(fun h9 => absurd h9 (by decide +kernel)), (fun _ => ⟨rfl, rfl⟩)⟩ ⟨(fun h9 => absurd h9 (by decide +kernel)), (fun _ => ⟨rfl, rfl⟩)⟩ ⟨(fun h9 => absurd h9 (by decide +kernel)), (fun _ => ⟨rfl, rfl⟩)⟩ ⟨(fun _ => ⟨rfl, (fun h9 => by first | rfl | (exfalso; omega))⟩), (fun h9 => absurd (by decide +kernel) h9)⟩⟩), by rw [ht]; exact hP.sub [0, 1, 2, 3, 4, 5, 6, 7, 8, 9] rfl, hD.sub [0, 1, 2, 3, 4, 5, 6, 7, 8, 9] (by decide +kernel) rfl⟩, hS.F ht⟩) hS.2.2 dX12_hold_154
                  · rw [fa_eq] at c_115
                    try rw [ti_2] at c_115
                    refine lv_aload_n hx hb dX12_hold_107 rfl (lv_at hl 2 rfl) ?_
                    refine va_get (D := D) (ci := 9) (v := .ref h2) (C := RX12) (T := TX12) (N := 11) hx hb hts in_X12_hold_X12 hown hE.1 hP 0 rfl rfl 6 (by decide +kernel) (hts (.fieldLink RX12 43 "ClauseBook" "worth" "LClauseBook$Worth;") (List.mem_of_getElem? (i := 7) rfl)) (fun _ h9 => h9) e0_6 dX12_hold_108 ?_
                    refine lv_sipush (v := 675) hx hb dX12_hold_111 (by decide +kernel) ?_
                    refine lv_lload_n hx hb dX12_hold_114 rfl (lv_at hl 5 rfl) ?_
                    refine lv_lload hx hb dX12_hold_115 (lv_at hl 6 rfl) ?_
                    have hFc := va_free (wc := [(h2, .inr (8, [v0, v1, .ref p0, .ref p1, v4, .int n])), (p0, .inl (T 1, 676, .inr (.inl f0))), (p1, .inl (T 1, 676, .inr (.inl f1)))]) hD hS hA [2, 3, 4] rfl
                    refine va_callv (va_runV (As := [.int 675, .long x3, .long x4]) (rest := []) ⟨hx, hb, hml, hown, hts⟩ (c_X11_reduce l D T _ h2 p0 p1 (v0) (v1) (v4) n f0 f1 675 x3 x4 (by first | decide | omega)) (cwV 3 hts gX12_hold_X11_reduce rfl rfl rfl hv_X11_reduce ⟨Nat.le_of_ble_eq_true rfl, Nat.le_of_ble_eq_true rfl⟩) (pW_V (q := (RX11, TX11, 6)) (ci := 8) (q0 := 2) hP hE hD rfl rfl [2, 3, 4] (by decide +kernel) rfl rfl) rfl rfl hl.1 rfl (lv_room (Nat.le_of_ble_eq_true rfl)) dX12_hold_117 ⟨Nat.le_of_ble_eq_true rfl, Nat.le_of_ble_eq_true rfl⟩) hS (fun q _ h => hFc q h) hFc (fun u_117 t H1 locs ht hvm hr_116 hB hz1 hk1 hS => ?_)
                    obtain ⟨f_118, f_119⟩ := u_117
                    obtain ⟨hP1, hD1⟩ := hB
                    rw [ht] at hP1
                    obtain ⟨hP, hD⟩ := va_repl [(h0, .inr (9, fs0)), (h1, .inr (1, fs1)), (h2, .inr (8, [v0, v1, .ref p0, .ref p1, v4, .int n])), (p0, .inl (T 1, 676, .inr (.inl f_118))), (p1, .inl (T 1, 676, .inr (.inl f_119))), (h3, .inl (T 7, 4, .inr (.inr (.inr (.inr (va_up (va_up (va_up (va_up (fun _ => none) 0 (some t0)) 1 (some t1)) 2 (some t2)) 3 (some t3))))))), (t0, .inr (3, [.int (jz 0), .int (jn 0), .long (ja 0), .long (jb 0)])), (t1, .inr (3, [.int (jz 1), .int (jn 1), .long (ja 1), .long (jb 1)])), (t2, .inr (3, [.int (jz 2), .int (jn 2), .long (ja 2), .long (jb 2)])), (t3, .inr (3, [.int x2, .int (jn 3), .long (ja 3), .long (jb 3)]))] hP hD [2, 3, 4] [2, 3, 4] rfl (by decide +kernel) rfl rfl rfl hk1 hP1
                    clear hP1 hD1 hFc
                    generalize H1 = H at hP hS ⊢
                    refine lv_aload hx hb dX12_hold_120 (lv_at hl 1 rfl) ?_
                    refine lv_aload_n hx hb dX12_hold_122 rfl (lv_at hl 2 rfl) ?_
                    refine va_get (D := D) (ci := 9) (v := .ref h2) (C := RX12) (T := TX12) (N := 11) hx hb hts in_X12_hold_X12 hown hE.1 hP 0 rfl rfl 6 (by decide +kernel) (hts (.fieldLink RX12 43 "ClauseBook" "worth" "LClauseBook$Worth;") (List.mem_of_getElem? (i := 7) rfl)) (fun _ h9 => h9) e0_6 dX12_hold_123 ?_
                    refine va_get (D := D) (ci := 8) (v := .ref p0) (C := RX11) (T := TX11) (N := 6) hx hb hts in_X12_hold_X11 hown hE.1 hP 2 rfl rfl 2 (by decide +kernel) (hts (.fieldLink RX12 202 "ClauseBook$Worth" "above" "[J") (List.mem_of_getElem? (i := 8) rfl)) (fun _ h9 => h9) rfl dX12_hold_126 ?_
                    refine lv_sipush (v := 675) hx hb dX12_hold_129 (by decide +kernel) ?_
                    refine va_lald hx hb hE.1 hP 3 1 rfl rfl (by unfold vp_in; decide) dX12_hold_132 ?_
                    refine lv_topl (fun z_120 ez_120 => ?_)
                    refine va_put (D := D) (ci := 3) (v := .long z_120) (ty := .long) (C := RX4) (T := TX4) (N := 4) hx hb hts in_X12_hold_X4 tyX4 tyX4_ok nmX4 hown hE.1 hP hD hS 9 rfl rfl 2 (by decide +kernel) (hts (.fieldLink RX12 365 "ClauseBook$Hand" "above" "J") (List.mem_of_getElem? (i := 9) rfl)) (fun _ h9 => h9) rfl (by decide +kernel) rfl rfl (Nat.le_of_ble_eq_true rfl) dX12_hold_133 (fun H locs hP hD hS => ?_)
                    obtain ⟨hP, hD⟩ := wPD [(h0, .inr (9, fs0)), (h1, .inr (1, fs1)), (h2, .inr (8, [v0, v1, .ref p0, .ref p1, v4, .int n])), (p0, .inl (T 1, 676, .inr (.inl f_118))), (p1, .inl (T 1, 676, .inr (.inl f_119))), (h3, .inl (T 7, 4, .inr (.inr (.inr (.inr (va_up (va_up (va_up (va_up (fun _ => none) 0 (some t0)) 1 (some t1)) 2 (some t2)) 3 (some t3))))))), (t0, .inr (3, [.int (jz 0), .int (jn 0), .long (ja 0), .long (jb 0)])), (t1, .inr (3, [.int (jz 1), .int (jn 1), .long (ja 1), .long (jb 1)])), (t2, .inr (3, [.int (jz 2), .int (jn 2), .long (ja 2), .long (jb 2)])), (t3, .inr (3, [.int x2, .int (jn 3), .long z_120, .long (jb 3)]))] hP hD rfl
                    refine lv_aload hx hb dX12_hold_136 (lv_at hl 1 rfl) ?_
                    refine lv_aload_n hx hb dX12_hold_138 rfl (lv_at hl 2 rfl) ?_
                    refine va_get (D := D) (ci := 9) (v := .ref h2) (C := RX12) (T := TX12) (N := 11) hx hb hts in_X12_hold_X12 hown hE.1 hP 0 rfl rfl 6 (by decide +kernel) (hts (.fieldLink RX12 43 "ClauseBook" "worth" "LClauseBook$Worth;") (List.mem_of_getElem? (i := 7) rfl)) (fun _ h9 => h9) e0_6 dX12_hold_139 ?_
                    refine va_get (D := D) (ci := 8) (v := .ref p1) (C := RX11) (T := TX11) (N := 6) hx hb hts in_X12_hold_X11 hown hE.1 hP 2 rfl rfl 3 (by decide +kernel) (hts (.fieldLink RX12 206 "ClauseBook$Worth" "below" "[J") (List.mem_of_getElem? (i := 10) rfl)) (fun _ h9 => h9) rfl dX12_hold_142 ?_
                    refine lv_sipush (v := 675) hx hb dX12_hold_145 (by decide +kernel) ?_
                    refine va_lald hx hb hE.1 hP 4 1 rfl rfl (by unfold vp_in; decide) dX12_hold_148 ?_
                    refine lv_topl (fun z_121 ez_121 => ?_)
                    refine va_put (D := D) (ci := 3) (v := .long z_121) (ty := .long) (C := RX4) (T := TX4) (N := 4) hx hb hts in_X12_hold_X4 tyX4 tyX4_ok nmX4 hown hE.1 hP hD hS 9 rfl rfl 3 (by decide +kernel) (hts (.fieldLink RX12 368 "ClauseBook$Hand" "below" "J") (List.mem_of_getElem? (i := 11) rfl)) (fun _ h9 => h9) rfl (by decide +kernel) rfl rfl (Nat.le_of_ble_eq_true rfl) dX12_hold_149 (fun H locs hP hD hS => ?_)
                    obtain ⟨hP, hD⟩ := wPD [(h0, .inr (9, fs0)), (h1, .inr (1, fs1)), (h2, .inr (8, [v0, v1, .ref p0, .ref p1, v4, .int n])), (p0, .inl (T 1, 676, .inr (.inl f_118))), (p1, .inl (T 1, 676, .inr (.inl f_119))), (h3, .inl (T 7, 4, .inr (.inr (.inr (.inr (va_up (va_up (va_up (va_up (fun _ => none) 0 (some t0)) 1 (some t1)) 2 (some t2)) 3 (some t3))))))), (t0, .inr (3, [.int (jz 0), .int (jn 0), .long (ja 0), .long (jb 0)])), (t1, .inr (3, [.int (jz 1), .int (jn 1), .long (ja 1), .long (jb 1)])), (t2, .inr (3, [.int (jz 2), .int (jn 2), .long (ja 2), .long (jb 2)])), (t3, .inr (3, [.int x2, .int (jn 3), .long z_120, .long z_121]))] hP hD rfl
                    refine lv_iload hx hb dX12_hold_152 (lv_at hl 0 rfl) ?_
                    exact W.iret hx hb hr (fun t ht hW => ⟨⟨_, (f_118, f_119, (fun k => [(jz 0), (jz 1), (jz 2), x2].getD k 0), (fun k => [(jn 0), (jn 1), (jn 2), (jn 3)].getD k 0), (fun k => [(ja 0), (ja 1), (ja 2), z_120].getD k 0), (fun k => [(jb 0), (jb 1), (jb 2), z_121].getD k 0)), rfl, (Or.inr ⟨⟨⟨by decide, by decide⟩, by omega, (fun h9 => by omega), (fun h9 => by omega)⟩, rfl, all4' ⟨(fun h9 => absurd h9 (by decide +kernel)), (fun _ => ⟨rfl, rfl⟩)⟩ ⟨(fun h9 => absurd h9 (by decide +kernel)), (fun _ => ⟨rfl, rfl⟩)⟩ ⟨(fun h9 => absurd h9 (by decide +kernel)), (fun _ => ⟨rfl, rfl⟩)⟩ ⟨(fun _ => ⟨rfl, (fun h9 => by first | rfl | (exfalso; omega))⟩), (fun h9 => absurd (by decide +kernel) h9)⟩⟩), by rw [ht]; exact hP.sub [0, 1, 2, 3, 4, 5, 6, 7, 8, 9] rfl, hD.sub [0, 1, 2, 3, 4, 5, 6, 7, 8, 9] (by decide +kernel) rfl⟩, hS.F ht⟩) hS.2.2 dX12_hold_154
                · rw [fa_eq] at c_114
                  try rw [ti_1] at c_114
                  refine lv_aload hx hb dX12_hold_95 (lv_at hl 1 rfl) ?_
                  refine lv_lload_n hx hb dX12_hold_97 rfl (lv_at hl 5 rfl) ?_
                  refine lv_l2i hx hb dX12_hold_98 rfl ?_
                  refine va_put (D := D) (ci := 3) (v := .int (x3.toInt32)) (ty := .int) (C := RX4) (T := TX4) (N := 4) hx hb hts in_X12_hold_X4 tyX4 tyX4_ok nmX4 hown hE.1 hP hD hS 9 rfl rfl 1 (by decide +kernel) (hts (.fieldLink RX12 360 "ClauseBook$Hand" "number" "I") (List.mem_of_getElem? (i := 6) rfl)) (fun _ h9 => h9) rfl (by decide +kernel) rfl rfl (Nat.le_of_ble_eq_true rfl) dX12_hold_99 (fun H locs hP hD hS => ?_)
                  obtain ⟨hP, hD⟩ := wPD [(h0, .inr (9, fs0)), (h1, .inr (1, fs1)), (h2, .inr (8, [v0, v1, .ref p0, .ref p1, v4, .int n])), (p0, .inl (T 1, 676, .inr (.inl f0))), (p1, .inl (T 1, 676, .inr (.inl f1))), (h3, .inl (T 7, 4, .inr (.inr (.inr (.inr (va_up (va_up (va_up (va_up (fun _ => none) 0 (some t0)) 1 (some t1)) 2 (some t2)) 3 (some t3))))))), (t0, .inr (3, [.int (jz 0), .int (jn 0), .long (ja 0), .long (jb 0)])), (t1, .inr (3, [.int (jz 1), .int (jn 1), .long (ja 1), .long (jb 1)])), (t2, .inr (3, [.int (jz 2), .int (jn 2), .long (ja 2), .long (jb 2)])), (t3, .inr (3, [.int x2, .int (x3.toInt32), .long (ja 3), .long (jb 3)]))] hP hD rfl
                  refine lv_iload_n hx hb dX12_hold_102 rfl (lv_at hl 4 rfl) ?_
                  refine lv_iconst (v := 2) hx hb dX12_hold_103 (by decide +kernel) ?_
                  refine lv_icmp_ne (tgt := 152) hx hb dX12_hold_104 (by decide +kernel) (fun c_122 => ?_) (fun c_122 => ?_)
                  · rw [fa_eq] at c_122
                    try rw [ti_2] at c_122
                    refine lv_iload hx hb dX12_hold_152 (lv_at hl 0 rfl) ?_
                    exact W.iret hx hb hr (fun t ht hW => ⟨⟨_, (f0, f1, (fun k => [(jz 0), (jz 1), (jz 2), x2].getD k 0), (fun k => [(jn 0), (jn 1), (jn 2), (x3.toInt32)].getD k 0), (fun k => [(ja 0), (ja 1), (ja 2), (ja 3)].getD k 0), (fun k => [(jb 0), (jb 1), (jb 2), (jb 3)].getD k 0)), rfl, (Or.inr ⟨⟨⟨by decide, by decide⟩, by omega, (fun h9 => by omega), (fun h9 => by omega)⟩, rfl, all4' ⟨(fun h9 => absurd h9 (by decide +kernel)), (fun _ => ⟨rfl, rfl⟩)⟩ ⟨(fun h9 => absurd h9 (by decide +kernel)), (fun _ => ⟨rfl, rfl⟩)⟩ ⟨(fun h9 => absurd h9 (by decide +kernel)), (fun _ => ⟨rfl, rfl⟩)⟩ ⟨(fun _ => ⟨rfl, (fun h9 => by first | rfl | (exfalso; omega))⟩), (fun h9 => absurd (by decide +kernel) h9)⟩⟩), by rw [ht]; exact hP.sub [0, 1, 2, 3, 4, 5, 6, 7, 8, 9] rfl, hD.sub [0, 1, 2, 3, 4, 5, 6, 7, 8, 9] (by decide +kernel) rfl⟩, hS.F ht⟩) hS.2.2 dX12_hold_154
                  · rw [fa_eq] at c_122
                    try rw [ti_2] at c_122
                    refine lv_aload_n hx hb dX12_hold_107 rfl (lv_at hl 2 rfl) ?_
                    refine va_get (D := D) (ci := 9) (v := .ref h2) (C := RX12) (T := TX12) (N := 11) hx hb hts in_X12_hold_X12 hown hE.1 hP 0 rfl rfl 6 (by decide +kernel) (hts (.fieldLink RX12 43 "ClauseBook" "worth" "LClauseBook$Worth;") (List.mem_of_getElem? (i := 7) rfl)) (fun _ h9 => h9) e0_6 dX12_hold_108 ?_
                    refine lv_sipush (v := 675) hx hb dX12_hold_111 (by decide +kernel) ?_
                    refine lv_lload_n hx hb dX12_hold_114 rfl (lv_at hl 5 rfl) ?_
                    refine lv_lload hx hb dX12_hold_115 (lv_at hl 6 rfl) ?_
                    have hFc := va_free (wc := [(h2, .inr (8, [v0, v1, .ref p0, .ref p1, v4, .int n])), (p0, .inl (T 1, 676, .inr (.inl f0))), (p1, .inl (T 1, 676, .inr (.inl f1)))]) hD hS hA [2, 3, 4] rfl
                    refine va_callv (va_runV (As := [.int 675, .long x3, .long x4]) (rest := []) ⟨hx, hb, hml, hown, hts⟩ (c_X11_reduce l D T _ h2 p0 p1 (v0) (v1) (v4) n f0 f1 675 x3 x4 (by first | decide | omega)) (cwV 3 hts gX12_hold_X11_reduce rfl rfl rfl hv_X11_reduce ⟨Nat.le_of_ble_eq_true rfl, Nat.le_of_ble_eq_true rfl⟩) (pW_V (q := (RX11, TX11, 6)) (ci := 8) (q0 := 2) hP hE hD rfl rfl [2, 3, 4] (by decide +kernel) rfl rfl) rfl rfl hl.1 rfl (lv_room (Nat.le_of_ble_eq_true rfl)) dX12_hold_117 ⟨Nat.le_of_ble_eq_true rfl, Nat.le_of_ble_eq_true rfl⟩) hS (fun q _ h => hFc q h) hFc (fun u_124 t H1 locs ht hvm hr_123 hB hz1 hk1 hS => ?_)
                    obtain ⟨f_125, f_126⟩ := u_124
                    obtain ⟨hP1, hD1⟩ := hB
                    rw [ht] at hP1
                    obtain ⟨hP, hD⟩ := va_repl [(h0, .inr (9, fs0)), (h1, .inr (1, fs1)), (h2, .inr (8, [v0, v1, .ref p0, .ref p1, v4, .int n])), (p0, .inl (T 1, 676, .inr (.inl f_125))), (p1, .inl (T 1, 676, .inr (.inl f_126))), (h3, .inl (T 7, 4, .inr (.inr (.inr (.inr (va_up (va_up (va_up (va_up (fun _ => none) 0 (some t0)) 1 (some t1)) 2 (some t2)) 3 (some t3))))))), (t0, .inr (3, [.int (jz 0), .int (jn 0), .long (ja 0), .long (jb 0)])), (t1, .inr (3, [.int (jz 1), .int (jn 1), .long (ja 1), .long (jb 1)])), (t2, .inr (3, [.int (jz 2), .int (jn 2), .long (ja 2), .long (jb 2)])), (t3, .inr (3, [.int x2, .int (x3.toInt32), .long (ja 3), .long (jb 3)]))] hP hD [2, 3, 4] [2, 3, 4] rfl (by decide +kernel) rfl rfl rfl hk1 hP1
                    clear hP1 hD1 hFc
                    generalize H1 = H at hP hS ⊢
                    refine lv_aload hx hb dX12_hold_120 (lv_at hl 1 rfl) ?_
                    refine lv_aload_n hx hb dX12_hold_122 rfl (lv_at hl 2 rfl) ?_
                    refine va_get (D := D) (ci := 9) (v := .ref h2) (C := RX12) (T := TX12) (N := 11) hx hb hts in_X12_hold_X12 hown hE.1 hP 0 rfl rfl 6 (by decide +kernel) (hts (.fieldLink RX12 43 "ClauseBook" "worth" "LClauseBook$Worth;") (List.mem_of_getElem? (i := 7) rfl)) (fun _ h9 => h9) e0_6 dX12_hold_123 ?_
                    refine va_get (D := D) (ci := 8) (v := .ref p0) (C := RX11) (T := TX11) (N := 6) hx hb hts in_X12_hold_X11 hown hE.1 hP 2 rfl rfl 2 (by decide +kernel) (hts (.fieldLink RX12 202 "ClauseBook$Worth" "above" "[J") (List.mem_of_getElem? (i := 8) rfl)) (fun _ h9 => h9) rfl dX12_hold_126 ?_
                    refine lv_sipush (v := 675) hx hb dX12_hold_129 (by decide +kernel) ?_
                    refine va_lald hx hb hE.1 hP 3 1 rfl rfl (by unfold vp_in; decide) dX12_hold_132 ?_
                    refine lv_topl (fun z_127 ez_127 => ?_)
                    refine va_put (D := D) (ci := 3) (v := .long z_127) (ty := .long) (C := RX4) (T := TX4) (N := 4) hx hb hts in_X12_hold_X4 tyX4 tyX4_ok nmX4 hown hE.1 hP hD hS 9 rfl rfl 2 (by decide +kernel) (hts (.fieldLink RX12 365 "ClauseBook$Hand" "above" "J") (List.mem_of_getElem? (i := 9) rfl)) (fun _ h9 => h9) rfl (by decide +kernel) rfl rfl (Nat.le_of_ble_eq_true rfl) dX12_hold_133 (fun H locs hP hD hS => ?_)
                    obtain ⟨hP, hD⟩ := wPD [(h0, .inr (9, fs0)), (h1, .inr (1, fs1)), (h2, .inr (8, [v0, v1, .ref p0, .ref p1, v4, .int n])), (p0, .inl (T 1, 676, .inr (.inl f_125))), (p1, .inl (T 1, 676, .inr (.inl f_126))), (h3, .inl (T 7, 4, .inr (.inr (.inr (.inr (va_up (va_up (va_up (va_up (fun _ => none) 0 (some t0)) 1 (some t1)) 2 (some t2)) 3 (some t3))))))), (t0, .inr (3, [.int (jz 0), .int (jn 0), .long (ja 0), .long (jb 0)])), (t1, .inr (3, [.int (jz 1), .int (jn 1), .long (ja 1), .long (jb 1)])), (t2, .inr (3, [.int (jz 2), .int (jn 2), .long (ja 2), .long (jb 2)])), (t3, .inr (3, [.int x2, .int (x3.toInt32), .long z_127, .long (jb 3)]))] hP hD rfl
                    refine lv_aload hx hb dX12_hold_136 (lv_at hl 1 rfl) ?_
                    refine lv_aload_n hx hb dX12_hold_138 rfl (lv_at hl 2 rfl) ?_
                    refine va_get (D := D) (ci := 9) (v := .ref h2) (C := RX12) (T := TX12) (N := 11) hx hb hts in_X12_hold_X12 hown hE.1 hP 0 rfl rfl 6 (by decide +kernel) (hts (.fieldLink RX12 43 "ClauseBook" "worth" "LClauseBook$Worth;") (List.mem_of_getElem? (i := 7) rfl)) (fun _ h9 => h9) e0_6 dX12_hold_139 ?_
                    refine va_get (D := D) (ci := 8) (v := .ref p1) (C := RX11) (T := TX11) (N := 6) hx hb hts in_X12_hold_X11 hown hE.1 hP 2 rfl rfl 3 (by decide +kernel) (hts (.fieldLink RX12 206 "ClauseBook$Worth" "below" "[J") (List.mem_of_getElem? (i := 10) rfl)) (fun _ h9 => h9) rfl dX12_hold_142 ?_
                    refine lv_sipush (v := 675) hx hb dX12_hold_145 (by decide +kernel) ?_
                    refine va_lald hx hb hE.1 hP 4 1 rfl rfl (by unfold vp_in; decide) dX12_hold_148 ?_
                    refine lv_topl (fun z_128 ez_128 => ?_)
                    refine va_put (D := D) (ci := 3) (v := .long z_128) (ty := .long) (C := RX4) (T := TX4) (N := 4) hx hb hts in_X12_hold_X4 tyX4 tyX4_ok nmX4 hown hE.1 hP hD hS 9 rfl rfl 3 (by decide +kernel) (hts (.fieldLink RX12 368 "ClauseBook$Hand" "below" "J") (List.mem_of_getElem? (i := 11) rfl)) (fun _ h9 => h9) rfl (by decide +kernel) rfl rfl (Nat.le_of_ble_eq_true rfl) dX12_hold_149 (fun H locs hP hD hS => ?_)
                    obtain ⟨hP, hD⟩ := wPD [(h0, .inr (9, fs0)), (h1, .inr (1, fs1)), (h2, .inr (8, [v0, v1, .ref p0, .ref p1, v4, .int n])), (p0, .inl (T 1, 676, .inr (.inl f_125))), (p1, .inl (T 1, 676, .inr (.inl f_126))), (h3, .inl (T 7, 4, .inr (.inr (.inr (.inr (va_up (va_up (va_up (va_up (fun _ => none) 0 (some t0)) 1 (some t1)) 2 (some t2)) 3 (some t3))))))), (t0, .inr (3, [.int (jz 0), .int (jn 0), .long (ja 0), .long (jb 0)])), (t1, .inr (3, [.int (jz 1), .int (jn 1), .long (ja 1), .long (jb 1)])), (t2, .inr (3, [.int (jz 2), .int (jn 2), .long (ja 2), .long (jb 2)])), (t3, .inr (3, [.int x2, .int (x3.toInt32), .long z_127, .long z_128]))] hP hD rfl
                    refine lv_iload hx hb dX12_hold_152 (lv_at hl 0 rfl) ?_
                    exact W.iret hx hb hr (fun t ht hW => ⟨⟨_, (f_125, f_126, (fun k => [(jz 0), (jz 1), (jz 2), x2].getD k 0), (fun k => [(jn 0), (jn 1), (jn 2), (x3.toInt32)].getD k 0), (fun k => [(ja 0), (ja 1), (ja 2), z_127].getD k 0), (fun k => [(jb 0), (jb 1), (jb 2), z_128].getD k 0)), rfl, (Or.inr ⟨⟨⟨by decide, by decide⟩, by omega, (fun h9 => by omega), (fun h9 => by omega)⟩, rfl, all4' ⟨(fun h9 => absurd h9 (by decide +kernel)), (fun _ => ⟨rfl, rfl⟩)⟩ ⟨(fun h9 => absurd h9 (by decide +kernel)), (fun _ => ⟨rfl, rfl⟩)⟩ ⟨(fun h9 => absurd h9 (by decide +kernel)), (fun _ => ⟨rfl, rfl⟩)⟩ ⟨(fun _ => ⟨rfl, (fun h9 => by first | rfl | (exfalso; omega))⟩), (fun h9 => absurd (by decide +kernel) h9)⟩⟩), by rw [ht]; exact hP.sub [0, 1, 2, 3, 4, 5, 6, 7, 8, 9] rfl, hD.sub [0, 1, 2, 3, 4, 5, 6, 7, 8, 9] (by decide +kernel) rfl⟩, hS.F ht⟩) hS.2.2 dX12_hold_154
            · rw [lcmp_eq] at c_68
              try rw [tl_min] at c_68
              refine lv_bipush (v := (-2)) hx hb dX12_hold_66 (by decide +kernel) ?_
              exact W.iret hx hb hr (fun t ht hW => ⟨⟨_, (f0, f1, (fun k => [(jz 0), (jz 1), (jz 2), (jz 3)].getD k 0), (fun k => [(jn 0), (jn 1), (jn 2), (jn 3)].getD k 0), (fun k => [(ja 0), (ja 1), (ja 2), (ja 3)].getD k 0), (fun k => [(jb 0), (jb 1), (jb 2), (jb 3)].getD k 0)), rfl, (Or.inl ⟨(fun h9 => by obtain ⟨h1, h2, h3, h4⟩ := h9; first | (clear h3 h4; omega) | (have h5 := h3 (by clear h3 h4; omega); clear h3 h4; omega) | (have h5 := h4 (by clear h3 h4; omega); clear h3 h4; omega)), (by decide +kernel), all4' ⟨rfl, rfl⟩ ⟨rfl, rfl⟩ ⟨rfl, rfl⟩ ⟨rfl, rfl⟩⟩), by rw [ht]; exact hP.sub [0, 1, 2, 3, 4, 5, 6, 7, 8, 9] rfl, hD.sub [0, 1, 2, 3, 4, 5, 6, 7, 8, 9] (by decide +kernel) rfl⟩, hS.F ht⟩) hS.2.2 dX12_hold_68
      · rw [fa_eq] at c_5
        try rw [ti_1] at c_5
        refine lv_lload_n hx hb dX12_hold_24 rfl (lv_at hl 3 rfl) ?_
        refine lv_lconst (v := 0) hx hb dX12_hold_25 (by decide +kernel) ?_
        refine W.lcmp hx hb dX12_hold_26 ?_
        refine lv_if_lt (tgt := 43) hx hb dX12_hold_27 (by decide +kernel) (fun c_129 => ?_) (fun c_129 => ?_)
        · rw [lcmp_lt] at c_129
          try rw [tl_0] at c_129
          refine lv_bipush (v := (-2)) hx hb dX12_hold_43 (by decide +kernel) ?_
          exact W.iret hx hb hr (fun t ht hW => ⟨⟨_, (f0, f1, (fun k => [(jz 0), (jz 1), (jz 2), (jz 3)].getD k 0), (fun k => [(jn 0), (jn 1), (jn 2), (jn 3)].getD k 0), (fun k => [(ja 0), (ja 1), (ja 2), (ja 3)].getD k 0), (fun k => [(jb 0), (jb 1), (jb 2), (jb 3)].getD k 0)), rfl, (Or.inl ⟨(fun h9 => by obtain ⟨h1, h2, h3, h4⟩ := h9; first | (clear h3 h4; omega) | (have h5 := h3 (by clear h3 h4; omega); clear h3 h4; omega) | (have h5 := h4 (by clear h3 h4; omega); clear h3 h4; omega)), (by decide +kernel), all4' ⟨rfl, rfl⟩ ⟨rfl, rfl⟩ ⟨rfl, rfl⟩ ⟨rfl, rfl⟩⟩), by rw [ht]; exact hP.sub [0, 1, 2, 3, 4, 5, 6, 7, 8, 9] rfl, hD.sub [0, 1, 2, 3, 4, 5, 6, 7, 8, 9] (by decide +kernel) rfl⟩, hS.F ht⟩) hS.2.2 dX12_hold_45
        · rw [lcmp_lt] at c_129
          try rw [tl_0] at c_129
          refine lv_lload_n hx hb dX12_hold_30 rfl (lv_at hl 3 rfl) ?_
          refine lv_aload_n hx hb dX12_hold_31 rfl (lv_at hl 0 rfl) ?_
          refine va_get (D := D) (ci := 9) (v := .ref h1) (C := RX12) (T := TX12) (N := 11) hx hb hts in_X12_hold_X12 hown hE.1 hP 0 rfl rfl 4 (by decide +kernel) (hts (.fieldLink RX12 32 "ClauseBook" "clauses" "LClauseBook$Clauses;") (List.mem_of_getElem? (i := 1) rfl)) (fun _ h9 => h9) e0_4 dX12_hold_32 ?_
          refine va_get (D := D) (ci := 1) (v := .int n9) (C := RX2) (T := TX2) (N := 8) hx hb hts in_X12_hold_X2 hown hE.1 hP 1 rfl rfl 0 (by decide +kernel) (hts (.fieldLink RX12 138 "ClauseBook$Clauses" "size" "I") (List.mem_of_getElem? (i := 2) rfl)) (fun _ h9 => h9) e1_0 dX12_hold_35 ?_
          refine lv_i2l hx hb dX12_hold_38 rfl ?_
          refine W.lcmp hx hb dX12_hold_39 ?_
          refine lv_if_lt (tgt := 46) hx hb dX12_hold_40 (by decide +kernel) (fun c_130 => ?_) (fun c_130 => ?_)
          · rw [lcmp_lt] at c_130
            try rw [((Int32.toInt_toInt64 _).trans rfl)] at c_130
            refine lv_iload_n hx hb dX12_hold_46 rfl (lv_at hl 2 rfl) ?_
            refine lv_iconst (v := 2) hx hb dX12_hold_47 (by decide +kernel) ?_
            refine lv_icmp_ne (tgt := 69) hx hb dX12_hold_48 (by decide +kernel) (fun c_131 => ?_) (fun c_131 => ?_)
            · rw [fa_eq] at c_131
              try rw [ti_2] at c_131
              refine lv_aload_n hx hb dX12_hold_69 rfl (lv_at hl 0 rfl) ?_
              refine va_get (D := D) (ci := 9) (v := .ref h3) (C := RX12) (T := TX12) (N := 11) hx hb hts in_X12_hold_X12 hown hE.1 hP 0 rfl rfl 10 (by decide +kernel) (hts (.fieldLink RX12 71 "ClauseBook" "hands" "[LClauseBook$Hand;") (List.mem_of_getElem? (i := 4) rfl)) (fun _ h9 => h9) e0_10 dX12_hold_70 ?_
              refine lv_iload_n hx hb dX12_hold_73 rfl (lv_at hl 1 rfl) ?_
              rcases in4 (x := x1) (by omega) with rfl | rfl | rfl | rfl
              · refine va_aldq hx hb hE.1 hP 5 7 rfl rfl (by unfold vp_in; decide) dX12_hold_74 ?_
                refine W.eq (g2 := F0 m 75 ls [.ref t0]) rfl ?_
                refine lv_astore (lv' := [(7, .ref t0), (0, .ref h0), (1, .int 0), (2, .int x2), (3, .long x3), (5, .long x4)]) hx hb dX12_hold_75 hl (by decide +kernel) rfl (fun ls hl => ?_)
                refine lv_aload hx hb dX12_hold_77 (lv_at hl 0 rfl) ?_
                refine va_get (D := D) (ci := 3) (v := .int (jz 0)) (C := RX4) (T := TX4) (N := 4) hx hb hts in_X12_hold_X4 hown hE.1 hP 6 rfl rfl 0 (by decide +kernel) (hts (.fieldLink RX12 359 "ClauseBook$Hand" "sort" "I") (List.mem_of_getElem? (i := 5) rfl)) (fun _ h9 => h9) rfl dX12_hold_79 ?_
                refine lv_istore (lv' := [(8, .int (jz 0)), (7, .ref t0), (0, .ref h0), (1, .int 0), (2, .int x2), (3, .long x3), (5, .long x4)]) hx hb dX12_hold_82 hl (by decide +kernel) rfl (fun ls hl => ?_)
                refine lv_aload hx hb dX12_hold_84 (lv_at hl 1 rfl) ?_
                refine lv_iload_n hx hb dX12_hold_86 rfl (lv_at hl 4 rfl) ?_
                refine va_put (D := D) (ci := 3) (v := .int x2) (ty := .int) (C := RX4) (T := TX4) (N := 4) hx hb hts in_X12_hold_X4 tyX4 tyX4_ok nmX4 hown hE.1 hP hD hS 6 rfl rfl 0 (by decide +kernel) (hts (.fieldLink RX12 359 "ClauseBook$Hand" "sort" "I") (List.mem_of_getElem? (i := 5) rfl)) (fun _ h9 => h9) rfl (by decide +kernel) rfl rfl (Nat.le_of_ble_eq_true rfl) dX12_hold_87 (fun H locs hP hD hS => ?_)
                obtain ⟨hP, hD⟩ := wPD [(h0, .inr (9, fs0)), (h1, .inr (1, fs1)), (h2, .inr (8, [v0, v1, .ref p0, .ref p1, v4, .int n])), (p0, .inl (T 1, 676, .inr (.inl f0))), (p1, .inl (T 1, 676, .inr (.inl f1))), (h3, .inl (T 7, 4, .inr (.inr (.inr (.inr (va_up (va_up (va_up (va_up (fun _ => none) 0 (some t0)) 1 (some t1)) 2 (some t2)) 3 (some t3))))))), (t0, .inr (3, [.int x2, .int (jn 0), .long (ja 0), .long (jb 0)])), (t1, .inr (3, [.int (jz 1), .int (jn 1), .long (ja 1), .long (jb 1)])), (t2, .inr (3, [.int (jz 2), .int (jn 2), .long (ja 2), .long (jb 2)])), (t3, .inr (3, [.int (jz 3), .int (jn 3), .long (ja 3), .long (jb 3)]))] hP hD rfl
                refine lv_iload_n hx hb dX12_hold_90 rfl (lv_at hl 4 rfl) ?_
                refine lv_iconst (v := 1) hx hb dX12_hold_91 (by decide +kernel) ?_
                refine lv_icmp_ne (tgt := 102) hx hb dX12_hold_92 (by decide +kernel) (fun c_132 => ?_) (fun c_132 => ?_)
                · rw [fa_eq] at c_132
                  try rw [ti_1] at c_132
                  refine lv_iload_n hx hb dX12_hold_102 rfl (lv_at hl 4 rfl) ?_
                  refine lv_iconst (v := 2) hx hb dX12_hold_103 (by decide +kernel) ?_
                  refine lv_icmp_ne (tgt := 152) hx hb dX12_hold_104 (by decide +kernel) (fun c_133 => ?_) (fun c_133 => ?_)
                  · rw [fa_eq] at c_133
                    try rw [ti_2] at c_133
                    refine lv_iload hx hb dX12_hold_152 (lv_at hl 0 rfl) ?_
                    exact W.iret hx hb hr (fun t ht hW => ⟨⟨_, (f0, f1, (fun k => [x2, (jz 1), (jz 2), (jz 3)].getD k 0), (fun k => [(jn 0), (jn 1), (jn 2), (jn 3)].getD k 0), (fun k => [(ja 0), (ja 1), (ja 2), (ja 3)].getD k 0), (fun k => [(jb 0), (jb 1), (jb 2), (jb 3)].getD k 0)), rfl, (Or.inr ⟨⟨⟨by decide, by decide⟩, by omega, (fun h9 => by omega), (fun h9 => by omega)⟩, rfl, all4' ⟨(fun _ => ⟨rfl, (fun h9 => by first | rfl | (exfalso; omega))⟩), (fun h9 => absurd (by decide +kernel) h9)⟩ ⟨(fun h9 => absurd h9 (by decide +kernel)), (fun _ => ⟨rfl, rfl⟩)⟩ ⟨(fun h9 => absurd h9 (by decide +kernel)), (fun _ => ⟨rfl, rfl⟩)⟩ ⟨(fun h9 => absurd h9 (by decide +kernel)), (fun _ => ⟨rfl, rfl⟩)⟩⟩), by rw [ht]; exact hP.sub [0, 1, 2, 3, 4, 5, 6, 7, 8, 9] rfl, hD.sub [0, 1, 2, 3, 4, 5, 6, 7, 8, 9] (by decide +kernel) rfl⟩, hS.F ht⟩) hS.2.2 dX12_hold_154
                  · rw [fa_eq] at c_133
                    try rw [ti_2] at c_133
                    refine lv_aload_n hx hb dX12_hold_107 rfl (lv_at hl 2 rfl) ?_
                    refine va_get (D := D) (ci := 9) (v := .ref h2) (C := RX12) (T := TX12) (N := 11) hx hb hts in_X12_hold_X12 hown hE.1 hP 0 rfl rfl 6 (by decide +kernel) (hts (.fieldLink RX12 43 "ClauseBook" "worth" "LClauseBook$Worth;") (List.mem_of_getElem? (i := 7) rfl)) (fun _ h9 => h9) e0_6 dX12_hold_108 ?_
                    refine lv_sipush (v := 675) hx hb dX12_hold_111 (by decide +kernel) ?_
                    refine lv_lload_n hx hb dX12_hold_114 rfl (lv_at hl 5 rfl) ?_
                    refine lv_lload hx hb dX12_hold_115 (lv_at hl 6 rfl) ?_
                    have hFc := va_free (wc := [(h2, .inr (8, [v0, v1, .ref p0, .ref p1, v4, .int n])), (p0, .inl (T 1, 676, .inr (.inl f0))), (p1, .inl (T 1, 676, .inr (.inl f1)))]) hD hS hA [2, 3, 4] rfl
                    refine va_callv (va_runV (As := [.int 675, .long x3, .long x4]) (rest := []) ⟨hx, hb, hml, hown, hts⟩ (c_X11_reduce l D T _ h2 p0 p1 (v0) (v1) (v4) n f0 f1 675 x3 x4 (by first | decide | omega)) (cwV 3 hts gX12_hold_X11_reduce rfl rfl rfl hv_X11_reduce ⟨Nat.le_of_ble_eq_true rfl, Nat.le_of_ble_eq_true rfl⟩) (pW_V (q := (RX11, TX11, 6)) (ci := 8) (q0 := 2) hP hE hD rfl rfl [2, 3, 4] (by decide +kernel) rfl rfl) rfl rfl hl.1 rfl (lv_room (Nat.le_of_ble_eq_true rfl)) dX12_hold_117 ⟨Nat.le_of_ble_eq_true rfl, Nat.le_of_ble_eq_true rfl⟩) hS (fun q _ h => hFc q h) hFc (fun u_135 t H1 locs ht hvm hr_134 hB hz1 hk1 hS => ?_)
                    obtain ⟨f_136, f_137⟩ := u_135
                    obtain ⟨hP1, hD1⟩ := hB
                    rw [ht] at hP1
                    obtain ⟨hP, hD⟩ := va_repl [(h0, .inr (9, fs0)), (h1, .inr (1, fs1)), (h2, .inr (8, [v0, v1, .ref p0, .ref p1, v4, .int n])), (p0, .inl (T 1, 676, .inr (.inl f_136))), (p1, .inl (T 1, 676, .inr (.inl f_137))), (h3, .inl (T 7, 4, .inr (.inr (.inr (.inr (va_up (va_up (va_up (va_up (fun _ => none) 0 (some t0)) 1 (some t1)) 2 (some t2)) 3 (some t3))))))), (t0, .inr (3, [.int x2, .int (jn 0), .long (ja 0), .long (jb 0)])), (t1, .inr (3, [.int (jz 1), .int (jn 1), .long (ja 1), .long (jb 1)])), (t2, .inr (3, [.int (jz 2), .int (jn 2), .long (ja 2), .long (jb 2)])), (t3, .inr (3, [.int (jz 3), .int (jn 3), .long (ja 3), .long (jb 3)]))] hP hD [2, 3, 4] [2, 3, 4] rfl (by decide +kernel) rfl rfl rfl hk1 hP1
                    clear hP1 hD1 hFc
                    generalize H1 = H at hP hS ⊢
                    refine lv_aload hx hb dX12_hold_120 (lv_at hl 1 rfl) ?_
                    refine lv_aload_n hx hb dX12_hold_122 rfl (lv_at hl 2 rfl) ?_
                    refine va_get (D := D) (ci := 9) (v := .ref h2) (C := RX12) (T := TX12) (N := 11) hx hb hts in_X12_hold_X12 hown hE.1 hP 0 rfl rfl 6 (by decide +kernel) (hts (.fieldLink RX12 43 "ClauseBook" "worth" "LClauseBook$Worth;") (List.mem_of_getElem? (i := 7) rfl)) (fun _ h9 => h9) e0_6 dX12_hold_123 ?_
                    refine va_get (D := D) (ci := 8) (v := .ref p0) (C := RX11) (T := TX11) (N := 6) hx hb hts in_X12_hold_X11 hown hE.1 hP 2 rfl rfl 2 (by decide +kernel) (hts (.fieldLink RX12 202 "ClauseBook$Worth" "above" "[J") (List.mem_of_getElem? (i := 8) rfl)) (fun _ h9 => h9) rfl dX12_hold_126 ?_
                    refine lv_sipush (v := 675) hx hb dX12_hold_129 (by decide +kernel) ?_
                    refine va_lald hx hb hE.1 hP 3 1 rfl rfl (by unfold vp_in; decide) dX12_hold_132 ?_
                    refine lv_topl (fun z_138 ez_138 => ?_)
                    refine va_put (D := D) (ci := 3) (v := .long z_138) (ty := .long) (C := RX4) (T := TX4) (N := 4) hx hb hts in_X12_hold_X4 tyX4 tyX4_ok nmX4 hown hE.1 hP hD hS 6 rfl rfl 2 (by decide +kernel) (hts (.fieldLink RX12 365 "ClauseBook$Hand" "above" "J") (List.mem_of_getElem? (i := 9) rfl)) (fun _ h9 => h9) rfl (by decide +kernel) rfl rfl (Nat.le_of_ble_eq_true rfl) dX12_hold_133 (fun H locs hP hD hS => ?_)
                    obtain ⟨hP, hD⟩ := wPD [(h0, .inr (9, fs0)), (h1, .inr (1, fs1)), (h2, .inr (8, [v0, v1, .ref p0, .ref p1, v4, .int n])), (p0, .inl (T 1, 676, .inr (.inl f_136))), (p1, .inl (T 1, 676, .inr (.inl f_137))), (h3, .inl (T 7, 4, .inr (.inr (.inr (.inr (va_up (va_up (va_up (va_up (fun _ => none) 0 (some t0)) 1 (some t1)) 2 (some t2)) 3 (some t3))))))), (t0, .inr (3, [.int x2, .int (jn 0), .long z_138, .long (jb 0)])), (t1, .inr (3, [.int (jz 1), .int (jn 1), .long (ja 1), .long (jb 1)])), (t2, .inr (3, [.int (jz 2), .int (jn 2), .long (ja 2), .long (jb 2)])), (t3, .inr (3, [.int (jz 3), .int (jn 3), .long (ja 3), .long (jb 3)]))] hP hD rfl
                    refine lv_aload hx hb dX12_hold_136 (lv_at hl 1 rfl) ?_
                    refine lv_aload_n hx hb dX12_hold_138 rfl (lv_at hl 2 rfl) ?_
                    refine va_get (D := D) (ci := 9) (v := .ref h2) (C := RX12) (T := TX12) (N := 11) hx hb hts in_X12_hold_X12 hown hE.1 hP 0 rfl rfl 6 (by decide +kernel) (hts (.fieldLink RX12 43 "ClauseBook" "worth" "LClauseBook$Worth;") (List.mem_of_getElem? (i := 7) rfl)) (fun _ h9 => h9) e0_6 dX12_hold_139 ?_
                    refine va_get (D := D) (ci := 8) (v := .ref p1) (C := RX11) (T := TX11) (N := 6) hx hb hts in_X12_hold_X11 hown hE.1 hP 2 rfl rfl 3 (by decide +kernel) (hts (.fieldLink RX12 206 "ClauseBook$Worth" "below" "[J") (List.mem_of_getElem? (i := 10) rfl)) (fun _ h9 => h9) rfl dX12_hold_142 ?_
                    refine lv_sipush (v := 675) hx hb dX12_hold_145 (by decide +kernel) ?_
                    refine va_lald hx hb hE.1 hP 4 1 rfl rfl (by unfold vp_in; decide) dX12_hold_148 ?_
                    refine lv_topl (fun z_139 ez_139 => ?_)
                    refine va_put (D := D) (ci := 3) (v := .long z_139) (ty := .long) (C := RX4) (T := TX4) (N := 4) hx hb hts in_X12_hold_X4 tyX4 tyX4_ok nmX4 hown hE.1 hP hD hS 6 rfl rfl 3 (by decide +kernel) (hts (.fieldLink RX12 368 "ClauseBook$Hand" "below" "J") (List.mem_of_getElem? (i := 11) rfl)) (fun _ h9 => h9) rfl (by decide +kernel) rfl rfl (Nat.le_of_ble_eq_true rfl) dX12_hold_149 (fun H locs hP hD hS => ?_)
                    obtain ⟨hP, hD⟩ := wPD [(h0, .inr (9, fs0)), (h1, .inr (1, fs1)), (h2, .inr (8, [v0, v1, .ref p0, .ref p1, v4, .int n])), (p0, .inl (T 1, 676, .inr (.inl f_136))), (p1, .inl (T 1, 676, .inr (.inl f_137))), (h3, .inl (T 7, 4, .inr (.inr (.inr (.inr (va_up (va_up (va_up (va_up (fun _ => none) 0 (some t0)) 1 (some t1)) 2 (some t2)) 3 (some t3))))))), (t0, .inr (3, [.int x2, .int (jn 0), .long z_138, .long z_139])), (t1, .inr (3, [.int (jz 1), .int (jn 1), .long (ja 1), .long (jb 1)])), (t2, .inr (3, [.int (jz 2), .int (jn 2), .long (ja 2), .long (jb 2)])), (t3, .inr (3, [.int (jz 3), .int (jn 3), .long (ja 3), .long (jb 3)]))] hP hD rfl
                    refine lv_iload hx hb dX12_hold_152 (lv_at hl 0 rfl) ?_
                    exact W.iret hx hb hr (fun t ht hW => ⟨⟨_, (f_136, f_137, (fun k => [x2, (jz 1), (jz 2), (jz 3)].getD k 0), (fun k => [(jn 0), (jn 1), (jn 2), (jn 3)].getD k 0), (fun k => [z_138, (ja 1), (ja 2), (ja 3)].getD k 0), (fun k => [z_139, (jb 1), (jb 2), (jb 3)].getD k 0)), rfl, (Or.inr ⟨⟨⟨by decide, by decide⟩, by omega, (fun h9 => by omega), (fun h9 => by omega)⟩, rfl, all4' ⟨(fun _ => ⟨rfl, (fun h9 => by first | rfl | (exfalso; omega))⟩), (fun h9 => absurd (by decide +kernel) h9)⟩ ⟨(fun h9 => absurd h9 (by decide +kernel)), (fun _ => ⟨rfl, rfl⟩)⟩ ⟨(fun h9 => absurd h9 (by decide +kernel)), (fun _ => ⟨rfl, rfl⟩)⟩ ⟨(fun h9 => absurd h9 (by decide +kernel)), (fun _ => ⟨rfl, rfl⟩)⟩⟩), by rw [ht]; exact hP.sub [0, 1, 2, 3, 4, 5, 6, 7, 8, 9] rfl, hD.sub [0, 1, 2, 3, 4, 5, 6, 7, 8, 9] (by decide +kernel) rfl⟩, hS.F ht⟩) hS.2.2 dX12_hold_154
                · rw [fa_eq] at c_132
                  try rw [ti_1] at c_132
                  refine lv_aload hx hb dX12_hold_95 (lv_at hl 1 rfl) ?_
                  refine lv_lload_n hx hb dX12_hold_97 rfl (lv_at hl 5 rfl) ?_
                  refine lv_l2i hx hb dX12_hold_98 rfl ?_
                  refine va_put (D := D) (ci := 3) (v := .int (x3.toInt32)) (ty := .int) (C := RX4) (T := TX4) (N := 4) hx hb hts in_X12_hold_X4 tyX4 tyX4_ok nmX4 hown hE.1 hP hD hS 6 rfl rfl 1 (by decide +kernel) (hts (.fieldLink RX12 360 "ClauseBook$Hand" "number" "I") (List.mem_of_getElem? (i := 6) rfl)) (fun _ h9 => h9) rfl (by decide +kernel) rfl rfl (Nat.le_of_ble_eq_true rfl) dX12_hold_99 (fun H locs hP hD hS => ?_)
                  obtain ⟨hP, hD⟩ := wPD [(h0, .inr (9, fs0)), (h1, .inr (1, fs1)), (h2, .inr (8, [v0, v1, .ref p0, .ref p1, v4, .int n])), (p0, .inl (T 1, 676, .inr (.inl f0))), (p1, .inl (T 1, 676, .inr (.inl f1))), (h3, .inl (T 7, 4, .inr (.inr (.inr (.inr (va_up (va_up (va_up (va_up (fun _ => none) 0 (some t0)) 1 (some t1)) 2 (some t2)) 3 (some t3))))))), (t0, .inr (3, [.int x2, .int (x3.toInt32), .long (ja 0), .long (jb 0)])), (t1, .inr (3, [.int (jz 1), .int (jn 1), .long (ja 1), .long (jb 1)])), (t2, .inr (3, [.int (jz 2), .int (jn 2), .long (ja 2), .long (jb 2)])), (t3, .inr (3, [.int (jz 3), .int (jn 3), .long (ja 3), .long (jb 3)]))] hP hD rfl
                  refine lv_iload_n hx hb dX12_hold_102 rfl (lv_at hl 4 rfl) ?_
                  refine lv_iconst (v := 2) hx hb dX12_hold_103 (by decide +kernel) ?_
                  refine lv_icmp_ne (tgt := 152) hx hb dX12_hold_104 (by decide +kernel) (fun c_140 => ?_) (fun c_140 => ?_)
                  · rw [fa_eq] at c_140
                    try rw [ti_2] at c_140
                    refine lv_iload hx hb dX12_hold_152 (lv_at hl 0 rfl) ?_
                    exact W.iret hx hb hr (fun t ht hW => ⟨⟨_, (f0, f1, (fun k => [x2, (jz 1), (jz 2), (jz 3)].getD k 0), (fun k => [(x3.toInt32), (jn 1), (jn 2), (jn 3)].getD k 0), (fun k => [(ja 0), (ja 1), (ja 2), (ja 3)].getD k 0), (fun k => [(jb 0), (jb 1), (jb 2), (jb 3)].getD k 0)), rfl, (Or.inr ⟨⟨⟨by decide, by decide⟩, by omega, (fun h9 => by omega), (fun h9 => by omega)⟩, rfl, all4' ⟨(fun _ => ⟨rfl, (fun h9 => by first | rfl | (exfalso; omega))⟩), (fun h9 => absurd (by decide +kernel) h9)⟩ ⟨(fun h9 => absurd h9 (by decide +kernel)), (fun _ => ⟨rfl, rfl⟩)⟩ ⟨(fun h9 => absurd h9 (by decide +kernel)), (fun _ => ⟨rfl, rfl⟩)⟩ ⟨(fun h9 => absurd h9 (by decide +kernel)), (fun _ => ⟨rfl, rfl⟩)⟩⟩), by rw [ht]; exact hP.sub [0, 1, 2, 3, 4, 5, 6, 7, 8, 9] rfl, hD.sub [0, 1, 2, 3, 4, 5, 6, 7, 8, 9] (by decide +kernel) rfl⟩, hS.F ht⟩) hS.2.2 dX12_hold_154
                  · rw [fa_eq] at c_140
                    try rw [ti_2] at c_140
                    refine lv_aload_n hx hb dX12_hold_107 rfl (lv_at hl 2 rfl) ?_
                    refine va_get (D := D) (ci := 9) (v := .ref h2) (C := RX12) (T := TX12) (N := 11) hx hb hts in_X12_hold_X12 hown hE.1 hP 0 rfl rfl 6 (by decide +kernel) (hts (.fieldLink RX12 43 "ClauseBook" "worth" "LClauseBook$Worth;") (List.mem_of_getElem? (i := 7) rfl)) (fun _ h9 => h9) e0_6 dX12_hold_108 ?_
                    refine lv_sipush (v := 675) hx hb dX12_hold_111 (by decide +kernel) ?_
                    refine lv_lload_n hx hb dX12_hold_114 rfl (lv_at hl 5 rfl) ?_
                    refine lv_lload hx hb dX12_hold_115 (lv_at hl 6 rfl) ?_
                    have hFc := va_free (wc := [(h2, .inr (8, [v0, v1, .ref p0, .ref p1, v4, .int n])), (p0, .inl (T 1, 676, .inr (.inl f0))), (p1, .inl (T 1, 676, .inr (.inl f1)))]) hD hS hA [2, 3, 4] rfl
                    refine va_callv (va_runV (As := [.int 675, .long x3, .long x4]) (rest := []) ⟨hx, hb, hml, hown, hts⟩ (c_X11_reduce l D T _ h2 p0 p1 (v0) (v1) (v4) n f0 f1 675 x3 x4 (by first | decide | omega)) (cwV 3 hts gX12_hold_X11_reduce rfl rfl rfl hv_X11_reduce ⟨Nat.le_of_ble_eq_true rfl, Nat.le_of_ble_eq_true rfl⟩) (pW_V (q := (RX11, TX11, 6)) (ci := 8) (q0 := 2) hP hE hD rfl rfl [2, 3, 4] (by decide +kernel) rfl rfl) rfl rfl hl.1 rfl (lv_room (Nat.le_of_ble_eq_true rfl)) dX12_hold_117 ⟨Nat.le_of_ble_eq_true rfl, Nat.le_of_ble_eq_true rfl⟩) hS (fun q _ h => hFc q h) hFc (fun u_142 t H1 locs ht hvm hr_141 hB hz1 hk1 hS => ?_)
                    obtain ⟨f_143, f_144⟩ := u_142
                    obtain ⟨hP1, hD1⟩ := hB
                    rw [ht] at hP1
                    obtain ⟨hP, hD⟩ := va_repl [(h0, .inr (9, fs0)), (h1, .inr (1, fs1)), (h2, .inr (8, [v0, v1, .ref p0, .ref p1, v4, .int n])), (p0, .inl (T 1, 676, .inr (.inl f_143))), (p1, .inl (T 1, 676, .inr (.inl f_144))), (h3, .inl (T 7, 4, .inr (.inr (.inr (.inr (va_up (va_up (va_up (va_up (fun _ => none) 0 (some t0)) 1 (some t1)) 2 (some t2)) 3 (some t3))))))), (t0, .inr (3, [.int x2, .int (x3.toInt32), .long (ja 0), .long (jb 0)])), (t1, .inr (3, [.int (jz 1), .int (jn 1), .long (ja 1), .long (jb 1)])), (t2, .inr (3, [.int (jz 2), .int (jn 2), .long (ja 2), .long (jb 2)])), (t3, .inr (3, [.int (jz 3), .int (jn 3), .long (ja 3), .long (jb 3)]))] hP hD [2, 3, 4] [2, 3, 4] rfl (by decide +kernel) rfl rfl rfl hk1 hP1
                    clear hP1 hD1 hFc
                    generalize H1 = H at hP hS ⊢
                    refine lv_aload hx hb dX12_hold_120 (lv_at hl 1 rfl) ?_
                    refine lv_aload_n hx hb dX12_hold_122 rfl (lv_at hl 2 rfl) ?_
                    refine va_get (D := D) (ci := 9) (v := .ref h2) (C := RX12) (T := TX12) (N := 11) hx hb hts in_X12_hold_X12 hown hE.1 hP 0 rfl rfl 6 (by decide +kernel) (hts (.fieldLink RX12 43 "ClauseBook" "worth" "LClauseBook$Worth;") (List.mem_of_getElem? (i := 7) rfl)) (fun _ h9 => h9) e0_6 dX12_hold_123 ?_
                    refine va_get (D := D) (ci := 8) (v := .ref p0) (C := RX11) (T := TX11) (N := 6) hx hb hts in_X12_hold_X11 hown hE.1 hP 2 rfl rfl 2 (by decide +kernel) (hts (.fieldLink RX12 202 "ClauseBook$Worth" "above" "[J") (List.mem_of_getElem? (i := 8) rfl)) (fun _ h9 => h9) rfl dX12_hold_126 ?_
                    refine lv_sipush (v := 675) hx hb dX12_hold_129 (by decide +kernel) ?_
                    refine va_lald hx hb hE.1 hP 3 1 rfl rfl (by unfold vp_in; decide) dX12_hold_132 ?_
                    refine lv_topl (fun z_145 ez_145 => ?_)
                    refine va_put (D := D) (ci := 3) (v := .long z_145) (ty := .long) (C := RX4) (T := TX4) (N := 4) hx hb hts in_X12_hold_X4 tyX4 tyX4_ok nmX4 hown hE.1 hP hD hS 6 rfl rfl 2 (by decide +kernel) (hts (.fieldLink RX12 365 "ClauseBook$Hand" "above" "J") (List.mem_of_getElem? (i := 9) rfl)) (fun _ h9 => h9) rfl (by decide +kernel) rfl rfl (Nat.le_of_ble_eq_true rfl) dX12_hold_133 (fun H locs hP hD hS => ?_)
                    obtain ⟨hP, hD⟩ := wPD [(h0, .inr (9, fs0)), (h1, .inr (1, fs1)), (h2, .inr (8, [v0, v1, .ref p0, .ref p1, v4, .int n])), (p0, .inl (T 1, 676, .inr (.inl f_143))), (p1, .inl (T 1, 676, .inr (.inl f_144))), (h3, .inl (T 7, 4, .inr (.inr (.inr (.inr (va_up (va_up (va_up (va_up (fun _ => none) 0 (some t0)) 1 (some t1)) 2 (some t2)) 3 (some t3))))))), (t0, .inr (3, [.int x2, .int (x3.toInt32), .long z_145, .long (jb 0)])), (t1, .inr (3, [.int (jz 1), .int (jn 1), .long (ja 1), .long (jb 1)])), (t2, .inr (3, [.int (jz 2), .int (jn 2), .long (ja 2), .long (jb 2)])), (t3, .inr (3, [.int (jz 3), .int (jn 3), .long (ja 3), .long (jb 3)]))] hP hD rfl
                    refine lv_aload hx hb dX12_hold_136 (lv_at hl 1 rfl) ?_
                    refine lv_aload_n hx hb dX12_hold_138 rfl (lv_at hl 2 rfl) ?_
                    refine va_get (D := D) (ci := 9) (v := .ref h2) (C := RX12) (T := TX12) (N := 11) hx hb hts in_X12_hold_X12 hown hE.1 hP 0 rfl rfl 6 (by decide +kernel) (hts (.fieldLink RX12 43 "ClauseBook" "worth" "LClauseBook$Worth;") (List.mem_of_getElem? (i := 7) rfl)) (fun _ h9 => h9) e0_6 dX12_hold_139 ?_
                    refine va_get (D := D) (ci := 8) (v := .ref p1) (C := RX11) (T := TX11) (N := 6) hx hb hts in_X12_hold_X11 hown hE.1 hP 2 rfl rfl 3 (by decide +kernel) (hts (.fieldLink RX12 206 "ClauseBook$Worth" "below" "[J") (List.mem_of_getElem? (i := 10) rfl)) (fun _ h9 => h9) rfl dX12_hold_142 ?_
                    refine lv_sipush (v := 675) hx hb dX12_hold_145 (by decide +kernel) ?_
                    refine va_lald hx hb hE.1 hP 4 1 rfl rfl (by unfold vp_in; decide) dX12_hold_148 ?_
                    refine lv_topl (fun z_146 ez_146 => ?_)
                    refine va_put (D := D) (ci := 3) (v := .long z_146) (ty := .long) (C := RX4) (T := TX4) (N := 4) hx hb hts in_X12_hold_X4 tyX4 tyX4_ok nmX4 hown hE.1 hP hD hS 6 rfl rfl 3 (by decide +kernel) (hts (.fieldLink RX12 368 "ClauseBook$Hand" "below" "J") (List.mem_of_getElem? (i := 11) rfl)) (fun _ h9 => h9) rfl (by decide +kernel) rfl rfl (Nat.le_of_ble_eq_true rfl) dX12_hold_149 (fun H locs hP hD hS => ?_)
                    obtain ⟨hP, hD⟩ := wPD [(h0, .inr (9, fs0)), (h1, .inr (1, fs1)), (h2, .inr (8, [v0, v1, .ref p0, .ref p1, v4, .int n])), (p0, .inl (T 1, 676, .inr (.inl f_143))), (p1, .inl (T 1, 676, .inr (.inl f_144))), (h3, .inl (T 7, 4, .inr (.inr (.inr (.inr (va_up (va_up (va_up (va_up (fun _ => none) 0 (some t0)) 1 (some t1)) 2 (some t2)) 3 (some t3))))))), (t0, .inr (3, [.int x2, .int (x3.toInt32), .long z_145, .long z_146])), (t1, .inr (3, [.int (jz 1), .int (jn 1), .long (ja 1), .long (jb 1)])), (t2, .inr (3, [.int (jz 2), .int (jn 2), .long (ja 2), .long (jb 2)])), (t3, .inr (3, [.int (jz 3), .int (jn 3), .long (ja 3), .long (jb 3)]))] hP hD rfl
                    refine lv_iload hx hb dX12_hold_152 (lv_at hl 0 rfl) ?_
                    exact W.iret hx hb hr (fun t ht hW => ⟨⟨_, (f_143, f_144, (fun k => [x2, (jz 1), (jz 2), (jz 3)].getD k 0), (fun k => [(x3.toInt32), (jn 1), (jn 2), (jn 3)].getD k 0), (fun k => [z_145, (ja 1), (ja 2), (ja 3)].getD k 0), (fun k => [z_146, (jb 1), (jb 2), (jb 3)].getD k 0)), rfl, (Or.inr ⟨⟨⟨by decide, by decide⟩, by omega, (fun h9 => by omega), (fun h9 => by omega)⟩, rfl, all4' ⟨(fun _ => ⟨rfl, (fun h9 => by first | rfl | (exfalso; omega))⟩), (fun h9 => absurd (by decide +kernel) h9)⟩ ⟨(fun h9 => absurd h9 (by decide +kernel)), (fun _ => ⟨rfl, rfl⟩)⟩ ⟨(fun h9 => absurd h9 (by decide +kernel)), (fun _ => ⟨rfl, rfl⟩)⟩ ⟨(fun h9 => absurd h9 (by decide +kernel)), (fun _ => ⟨rfl, rfl⟩)⟩⟩), by rw [ht]; exact hP.sub [0, 1, 2, 3, 4, 5, 6, 7, 8, 9] rfl, hD.sub [0, 1, 2, 3, 4, 5, 6, 7, 8, 9] (by decide +kernel) rfl⟩, hS.F ht⟩) hS.2.2 dX12_hold_154
              · refine va_aldq hx hb hE.1 hP 5 7 rfl rfl (by unfold vp_in; decide) dX12_hold_74 ?_
                refine W.eq (g2 := F0 m 75 ls [.ref t1]) rfl ?_
                refine lv_astore (lv' := [(7, .ref t1), (0, .ref h0), (1, .int 1), (2, .int x2), (3, .long x3), (5, .long x4)]) hx hb dX12_hold_75 hl (by decide +kernel) rfl (fun ls hl => ?_)
                refine lv_aload hx hb dX12_hold_77 (lv_at hl 0 rfl) ?_
                refine va_get (D := D) (ci := 3) (v := .int (jz 1)) (C := RX4) (T := TX4) (N := 4) hx hb hts in_X12_hold_X4 hown hE.1 hP 7 rfl rfl 0 (by decide +kernel) (hts (.fieldLink RX12 359 "ClauseBook$Hand" "sort" "I") (List.mem_of_getElem? (i := 5) rfl)) (fun _ h9 => h9) rfl dX12_hold_79 ?_
                refine lv_istore (lv' := [(8, .int (jz 1)), (7, .ref t1), (0, .ref h0), (1, .int 1), (2, .int x2), (3, .long x3), (5, .long x4)]) hx hb dX12_hold_82 hl (by decide +kernel) rfl (fun ls hl => ?_)
                refine lv_aload hx hb dX12_hold_84 (lv_at hl 1 rfl) ?_
                refine lv_iload_n hx hb dX12_hold_86 rfl (lv_at hl 4 rfl) ?_
                refine va_put (D := D) (ci := 3) (v := .int x2) (ty := .int) (C := RX4) (T := TX4) (N := 4) hx hb hts in_X12_hold_X4 tyX4 tyX4_ok nmX4 hown hE.1 hP hD hS 7 rfl rfl 0 (by decide +kernel) (hts (.fieldLink RX12 359 "ClauseBook$Hand" "sort" "I") (List.mem_of_getElem? (i := 5) rfl)) (fun _ h9 => h9) rfl (by decide +kernel) rfl rfl (Nat.le_of_ble_eq_true rfl) dX12_hold_87 (fun H locs hP hD hS => ?_)
                obtain ⟨hP, hD⟩ := wPD [(h0, .inr (9, fs0)), (h1, .inr (1, fs1)), (h2, .inr (8, [v0, v1, .ref p0, .ref p1, v4, .int n])), (p0, .inl (T 1, 676, .inr (.inl f0))), (p1, .inl (T 1, 676, .inr (.inl f1))), (h3, .inl (T 7, 4, .inr (.inr (.inr (.inr (va_up (va_up (va_up (va_up (fun _ => none) 0 (some t0)) 1 (some t1)) 2 (some t2)) 3 (some t3))))))), (t0, .inr (3, [.int (jz 0), .int (jn 0), .long (ja 0), .long (jb 0)])), (t1, .inr (3, [.int x2, .int (jn 1), .long (ja 1), .long (jb 1)])), (t2, .inr (3, [.int (jz 2), .int (jn 2), .long (ja 2), .long (jb 2)])), (t3, .inr (3, [.int (jz 3), .int (jn 3), .long (ja 3), .long (jb 3)]))] hP hD rfl
                refine lv_iload_n hx hb dX12_hold_90 rfl (lv_at hl 4 rfl) ?_
                refine lv_iconst (v := 1) hx hb dX12_hold_91 (by decide +kernel) ?_
                refine lv_icmp_ne (tgt := 102) hx hb dX12_hold_92 (by decide +kernel) (fun c_147 => ?_) (fun c_147 => ?_)
                · rw [fa_eq] at c_147
                  try rw [ti_1] at c_147
                  refine lv_iload_n hx hb dX12_hold_102 rfl (lv_at hl 4 rfl) ?_
                  refine lv_iconst (v := 2) hx hb dX12_hold_103 (by decide +kernel) ?_
                  refine lv_icmp_ne (tgt := 152) hx hb dX12_hold_104 (by decide +kernel) (fun c_148 => ?_) (fun c_148 => ?_)
                  · rw [fa_eq] at c_148
                    try rw [ti_2] at c_148
                    refine lv_iload hx hb dX12_hold_152 (lv_at hl 0 rfl) ?_
                    exact W.iret hx hb hr (fun t ht hW => ⟨⟨_, (f0, f1, (fun k => [(jz 0), x2, (jz 2), (jz 3)].getD k 0), (fun k => [(jn 0), (jn 1), (jn 2), (jn 3)].getD k 0), (fun k => [(ja 0), (ja 1), (ja 2), (ja 3)].getD k 0), (fun k => [(jb 0), (jb 1), (jb 2), (jb 3)].getD k 0)), rfl, (Or.inr ⟨⟨⟨by decide, by decide⟩, by omega, (fun h9 => by omega), (fun h9 => by omega)⟩, rfl, all4' ⟨(fun h9 => absurd h9 (by decide +kernel)), (fun _ => ⟨rfl, rfl⟩)⟩ ⟨(fun _ => ⟨rfl, (fun h9 => by first | rfl | (exfalso; omega))⟩), (fun h9 => absurd (by decide +kernel) h9)⟩ ⟨(fun h9 => absurd h9 (by decide +kernel)), (fun _ => ⟨rfl, rfl⟩)⟩ ⟨(fun h9 => absurd h9 (by decide +kernel)), (fun _ => ⟨rfl, rfl⟩)⟩⟩), by rw [ht]; exact hP.sub [0, 1, 2, 3, 4, 5, 6, 7, 8, 9] rfl, hD.sub [0, 1, 2, 3, 4, 5, 6, 7, 8, 9] (by decide +kernel) rfl⟩, hS.F ht⟩) hS.2.2 dX12_hold_154
                  · rw [fa_eq] at c_148
                    try rw [ti_2] at c_148
                    refine lv_aload_n hx hb dX12_hold_107 rfl (lv_at hl 2 rfl) ?_
                    refine va_get (D := D) (ci := 9) (v := .ref h2) (C := RX12) (T := TX12) (N := 11) hx hb hts in_X12_hold_X12 hown hE.1 hP 0 rfl rfl 6 (by decide +kernel) (hts (.fieldLink RX12 43 "ClauseBook" "worth" "LClauseBook$Worth;") (List.mem_of_getElem? (i := 7) rfl)) (fun _ h9 => h9) e0_6 dX12_hold_108 ?_
                    refine lv_sipush (v := 675) hx hb dX12_hold_111 (by decide +kernel) ?_
                    refine lv_lload_n hx hb dX12_hold_114 rfl (lv_at hl 5 rfl) ?_
                    refine lv_lload hx hb dX12_hold_115 (lv_at hl 6 rfl) ?_
                    have hFc := va_free (wc := [(h2, .inr (8, [v0, v1, .ref p0, .ref p1, v4, .int n])), (p0, .inl (T 1, 676, .inr (.inl f0))), (p1, .inl (T 1, 676, .inr (.inl f1)))]) hD hS hA [2, 3, 4] rfl
                    refine va_callv (va_runV (As := [.int 675, .long x3, .long x4]) (rest := []) ⟨hx, hb, hml, hown, hts⟩ (c_X11_reduce l D T _ h2 p0 p1 (v0) (v1) (v4) n f0 f1 675 x3 x4 (by first | decide | omega)) (cwV 3 hts gX12_hold_X11_reduce rfl rfl rfl hv_X11_reduce ⟨Nat.le_of_ble_eq_true rfl, Nat.le_of_ble_eq_true rfl⟩) (pW_V (q := (RX11, TX11, 6)) (ci := 8) (q0 := 2) hP hE hD rfl rfl [2, 3, 4] (by decide +kernel) rfl rfl) rfl rfl hl.1 rfl (lv_room (Nat.le_of_ble_eq_true rfl)) dX12_hold_117 ⟨Nat.le_of_ble_eq_true rfl, Nat.le_of_ble_eq_true rfl⟩) hS (fun q _ h => hFc q h) hFc (fun u_150 t H1 locs ht hvm hr_149 hB hz1 hk1 hS => ?_)
                    obtain ⟨f_151, f_152⟩ := u_150
                    obtain ⟨hP1, hD1⟩ := hB
                    rw [ht] at hP1
                    obtain ⟨hP, hD⟩ := va_repl [(h0, .inr (9, fs0)), (h1, .inr (1, fs1)), (h2, .inr (8, [v0, v1, .ref p0, .ref p1, v4, .int n])), (p0, .inl (T 1, 676, .inr (.inl f_151))), (p1, .inl (T 1, 676, .inr (.inl f_152))), (h3, .inl (T 7, 4, .inr (.inr (.inr (.inr (va_up (va_up (va_up (va_up (fun _ => none) 0 (some t0)) 1 (some t1)) 2 (some t2)) 3 (some t3))))))), (t0, .inr (3, [.int (jz 0), .int (jn 0), .long (ja 0), .long (jb 0)])), (t1, .inr (3, [.int x2, .int (jn 1), .long (ja 1), .long (jb 1)])), (t2, .inr (3, [.int (jz 2), .int (jn 2), .long (ja 2), .long (jb 2)])), (t3, .inr (3, [.int (jz 3), .int (jn 3), .long (ja 3), .long (jb 3)]))] hP hD [2, 3, 4] [2, 3, 4] rfl (by decide +kernel) rfl rfl rfl hk1 hP1
                    clear hP1 hD1 hFc
                    generalize H1 = H at hP hS ⊢
                    refine lv_aload hx hb dX12_hold_120 (lv_at hl 1 rfl) ?_
                    refine lv_aload_n hx hb dX12_hold_122 rfl (lv_at hl 2 rfl) ?_
                    refine va_get (D := D) (ci := 9) (v := .ref h2) (C := RX12) (T := TX12) (N := 11) hx hb hts in_X12_hold_X12 hown hE.1 hP 0 rfl rfl 6 (by decide +kernel) (hts (.fieldLink RX12 43 "ClauseBook" "worth" "LClauseBook$Worth;") (List.mem_of_getElem? (i := 7) rfl)) (fun _ h9 => h9) e0_6 dX12_hold_123 ?_
                    refine va_get (D := D) (ci := 8) (v := .ref p0) (C := RX11) (T := TX11) (N := 6) hx hb hts in_X12_hold_X11 hown hE.1 hP 2 rfl rfl 2 (by decide +kernel) (hts (.fieldLink RX12 202 "ClauseBook$Worth" "above" "[J") (List.mem_of_getElem? (i := 8) rfl)) (fun _ h9 => h9) rfl dX12_hold_126 ?_
                    refine lv_sipush (v := 675) hx hb dX12_hold_129 (by decide +kernel) ?_
                    refine va_lald hx hb hE.1 hP 3 1 rfl rfl (by unfold vp_in; decide) dX12_hold_132 ?_
                    refine lv_topl (fun z_153 ez_153 => ?_)
                    refine va_put (D := D) (ci := 3) (v := .long z_153) (ty := .long) (C := RX4) (T := TX4) (N := 4) hx hb hts in_X12_hold_X4 tyX4 tyX4_ok nmX4 hown hE.1 hP hD hS 7 rfl rfl 2 (by decide +kernel) (hts (.fieldLink RX12 365 "ClauseBook$Hand" "above" "J") (List.mem_of_getElem? (i := 9) rfl)) (fun _ h9 => h9) rfl (by decide +kernel) rfl rfl (Nat.le_of_ble_eq_true rfl) dX12_hold_133 (fun H locs hP hD hS => ?_)
                    obtain ⟨hP, hD⟩ := wPD [(h0, .inr (9, fs0)), (h1, .inr (1, fs1)), (h2, .inr (8, [v0, v1, .ref p0, .ref p1, v4, .int n])), (p0, .inl (T 1, 676, .inr (.inl f_151))), (p1, .inl (T 1, 676, .inr (.inl f_152))), (h3, .inl (T 7, 4, .inr (.inr (.inr (.inr (va_up (va_up (va_up (va_up (fun _ => none) 0 (some t0)) 1 (some t1)) 2 (some t2)) 3 (some t3))))))), (t0, .inr (3, [.int (jz 0), .int (jn 0), .long (ja 0), .long (jb 0)])), (t1, .inr (3, [.int x2, .int (jn 1), .long z_153, .long (jb 1)])), (t2, .inr (3, [.int (jz 2), .int (jn 2), .long (ja 2), .long (jb 2)])), (t3, .inr (3, [.int (jz 3), .int (jn 3), .long (ja 3), .long (jb 3)]))] hP hD rfl
                    refine lv_aload hx hb dX12_hold_136 (lv_at hl 1 rfl) ?_
                    refine lv_aload_n hx hb dX12_hold_138 rfl (lv_at hl 2 rfl) ?_
                    refine va_get (D := D) (ci := 9) (v := .ref h2) (C := RX12) (T := TX12) (N := 11) hx hb hts in_X12_hold_X12 hown hE.1 hP 0 rfl rfl 6 (by decide +kernel) (hts (.fieldLink RX12 43 "ClauseBook" "worth" "LClauseBook$Worth;") (List.mem_of_getElem? (i := 7) rfl)) (fun _ h9 => h9) e0_6 dX12_hold_139 ?_
                    refine va_get (D := D) (ci := 8) (v := .ref p1) (C := RX11) (T := TX11) (N := 6) hx hb hts in_X12_hold_X11 hown hE.1 hP 2 rfl rfl 3 (by decide +kernel) (hts (.fieldLink RX12 206 "ClauseBook$Worth" "below" "[J") (List.mem_of_getElem? (i := 10) rfl)) (fun _ h9 => h9) rfl dX12_hold_142 ?_
                    refine lv_sipush (v := 675) hx hb dX12_hold_145 (by decide +kernel) ?_
                    refine va_lald hx hb hE.1 hP 4 1 rfl rfl (by unfold vp_in; decide) dX12_hold_148 ?_
                    refine lv_topl (fun z_154 ez_154 => ?_)
                    refine va_put (D := D) (ci := 3) (v := .long z_154) (ty := .long) (C := RX4) (T := TX4) (N := 4) hx hb hts in_X12_hold_X4 tyX4 tyX4_ok nmX4 hown hE.1 hP hD hS 7 rfl rfl 3 (by decide +kernel) (hts (.fieldLink RX12 368 "ClauseBook$Hand" "below" "J") (List.mem_of_getElem? (i := 11) rfl)) (fun _ h9 => h9) rfl (by decide +kernel) rfl rfl (Nat.le_of_ble_eq_true rfl) dX12_hold_149 (fun H locs hP hD hS => ?_)
                    obtain ⟨hP, hD⟩ := wPD [(h0, .inr (9, fs0)), (h1, .inr (1, fs1)), (h2, .inr (8, [v0, v1, .ref p0, .ref p1, v4, .int n])), (p0, .inl (T 1, 676, .inr (.inl f_151))), (p1, .inl (T 1, 676, .inr (.inl f_152))), (h3, .inl (T 7, 4, .inr (.inr (.inr (.inr (va_up (va_up (va_up (va_up (fun _ => none) 0 (some t0)) 1 (some t1)) 2 (some t2)) 3 (some t3))))))), (t0, .inr (3, [.int (jz 0), .int (jn 0), .long (ja 0), .long (jb 0)])), (t1, .inr (3, [.int x2, .int (jn 1), .long z_153, .long z_154])), (t2, .inr (3, [.int (jz 2), .int (jn 2), .long (ja 2), .long (jb 2)])), (t3, .inr (3, [.int (jz 3), .int (jn 3), .long (ja 3), .long (jb 3)]))] hP hD rfl
                    refine lv_iload hx hb dX12_hold_152 (lv_at hl 0 rfl) ?_
                    exact W.iret hx hb hr (fun t ht hW => ⟨⟨_, (f_151, f_152, (fun k => [(jz 0), x2, (jz 2), (jz 3)].getD k 0), (fun k => [(jn 0), (jn 1), (jn 2), (jn 3)].getD k 0), (fun k => [(ja 0), z_153, (ja 2), (ja 3)].getD k 0), (fun k => [(jb 0), z_154, (jb 2), (jb 3)].getD k 0)), rfl, (Or.inr ⟨⟨⟨by decide, by decide⟩, by omega, (fun h9 => by omega), (fun h9 => by omega)⟩, rfl, all4' ⟨(fun h9 => absurd h9 (by decide +kernel)), (fun _ => ⟨rfl, rfl⟩)⟩ ⟨(fun _ => ⟨rfl, (fun h9 => by first | rfl | (exfalso; omega))⟩), (fun h9 => absurd (by decide +kernel) h9)⟩ ⟨(fun h9 => absurd h9 (by decide +kernel)), (fun _ => ⟨rfl, rfl⟩)⟩ ⟨(fun h9 => absurd h9 (by decide +kernel)), (fun _ => ⟨rfl, rfl⟩)⟩⟩), by rw [ht]; exact hP.sub [0, 1, 2, 3, 4, 5, 6, 7, 8, 9] rfl, hD.sub [0, 1, 2, 3, 4, 5, 6, 7, 8, 9] (by decide +kernel) rfl⟩, hS.F ht⟩) hS.2.2 dX12_hold_154
                · rw [fa_eq] at c_147
                  try rw [ti_1] at c_147
                  refine lv_aload hx hb dX12_hold_95 (lv_at hl 1 rfl) ?_
                  refine lv_lload_n hx hb dX12_hold_97 rfl (lv_at hl 5 rfl) ?_
                  refine lv_l2i hx hb dX12_hold_98 rfl ?_
                  refine va_put (D := D) (ci := 3) (v := .int (x3.toInt32)) (ty := .int) (C := RX4) (T := TX4) (N := 4) hx hb hts in_X12_hold_X4 tyX4 tyX4_ok nmX4 hown hE.1 hP hD hS 7 rfl rfl 1 (by decide +kernel) (hts (.fieldLink RX12 360 "ClauseBook$Hand" "number" "I") (List.mem_of_getElem? (i := 6) rfl)) (fun _ h9 => h9) rfl (by decide +kernel) rfl rfl (Nat.le_of_ble_eq_true rfl) dX12_hold_99 (fun H locs hP hD hS => ?_)
                  obtain ⟨hP, hD⟩ := wPD [(h0, .inr (9, fs0)), (h1, .inr (1, fs1)), (h2, .inr (8, [v0, v1, .ref p0, .ref p1, v4, .int n])), (p0, .inl (T 1, 676, .inr (.inl f0))), (p1, .inl (T 1, 676, .inr (.inl f1))), (h3, .inl (T 7, 4, .inr (.inr (.inr (.inr (va_up (va_up (va_up (va_up (fun _ => none) 0 (some t0)) 1 (some t1)) 2 (some t2)) 3 (some t3))))))), (t0, .inr (3, [.int (jz 0), .int (jn 0), .long (ja 0), .long (jb 0)])), (t1, .inr (3, [.int x2, .int (x3.toInt32), .long (ja 1), .long (jb 1)])), (t2, .inr (3, [.int (jz 2), .int (jn 2), .long (ja 2), .long (jb 2)])), (t3, .inr (3, [.int (jz 3), .int (jn 3), .long (ja 3), .long (jb 3)]))] hP hD rfl
                  refine lv_iload_n hx hb dX12_hold_102 rfl (lv_at hl 4 rfl) ?_
                  refine lv_iconst (v := 2) hx hb dX12_hold_103 (by decide +kernel) ?_
                  refine lv_icmp_ne (tgt := 152) hx hb dX12_hold_104 (by decide +kernel) (fun c_155 => ?_) (fun c_155 => ?_)
                  · rw [fa_eq] at c_155
                    try rw [ti_2] at c_155
                    refine lv_iload hx hb dX12_hold_152 (lv_at hl 0 rfl) ?_
                    exact W.iret hx hb hr (fun t ht hW => ⟨⟨_, (f0, f1, (fun k => [(jz 0), x2, (jz 2), (jz 3)].getD k 0), (fun k => [(jn 0), (x3.toInt32), (jn 2), (jn 3)].getD k 0), (fun k => [(ja 0), (ja 1), (ja 2), (ja 3)].getD k 0), (fun k => [(jb 0), (jb 1), (jb 2), (jb 3)].getD k 0)), rfl, (Or.inr ⟨⟨⟨by decide, by decide⟩, by omega, (fun h9 => by omega), (fun h9 => by omega)⟩, rfl, all4' ⟨(fun h9 => absurd h9 (by decide +kernel)), (fun _ => ⟨rfl, rfl⟩)⟩ ⟨(fun _ => ⟨rfl, (fun h9 => by first | rfl | (exfalso; omega))⟩), (fun h9 => absurd (by decide +kernel) h9)⟩ ⟨(fun h9 => absurd h9 (by decide +kernel)), (fun _ => ⟨rfl, rfl⟩)⟩ ⟨(fun h9 => absurd h9 (by decide +kernel)), (fun _ => ⟨rfl, rfl⟩)⟩⟩), by rw [ht]; exact hP.sub [0, 1, 2, 3, 4, 5, 6, 7, 8, 9] rfl, hD.sub [0, 1, 2, 3, 4, 5, 6, 7, 8, 9] (by decide +kernel) rfl⟩, hS.F ht⟩) hS.2.2 dX12_hold_154
                  · rw [fa_eq] at c_155
                    try rw [ti_2] at c_155
                    refine lv_aload_n hx hb dX12_hold_107 rfl (lv_at hl 2 rfl) ?_
                    refine va_get (D := D) (ci := 9) (v := .ref h2) (C := RX12) (T := TX12) (N := 11) hx hb hts in_X12_hold_X12 hown hE.1 hP 0 rfl rfl 6 (by decide +kernel) (hts (.fieldLink RX12 43 "ClauseBook" "worth" "LClauseBook$Worth;") (List.mem_of_getElem? (i := 7) rfl)) (fun _ h9 => h9) e0_6 dX12_hold_108 ?_
                    refine lv_sipush (v := 675) hx hb dX12_hold_111 (by decide +kernel) ?_
                    refine lv_lload_n hx hb dX12_hold_114 rfl (lv_at hl 5 rfl) ?_
                    refine lv_lload hx hb dX12_hold_115 (lv_at hl 6 rfl) ?_
                    have hFc := va_free (wc := [(h2, .inr (8, [v0, v1, .ref p0, .ref p1, v4, .int n])), (p0, .inl (T 1, 676, .inr (.inl f0))), (p1, .inl (T 1, 676, .inr (.inl f1)))]) hD hS hA [2, 3, 4] rfl
                    refine va_callv (va_runV (As := [.int 675, .long x3, .long x4]) (rest := []) ⟨hx, hb, hml, hown, hts⟩ (c_X11_reduce l D T _ h2 p0 p1 (v0) (v1) (v4) n f0 f1 675 x3 x4 (by first | decide | omega)) (cwV 3 hts gX12_hold_X11_reduce rfl rfl rfl hv_X11_reduce ⟨Nat.le_of_ble_eq_true rfl, Nat.le_of_ble_eq_true rfl⟩) (pW_V (q := (RX11, TX11, 6)) (ci := 8) (q0 := 2) hP hE hD rfl rfl [2, 3, 4] (by decide +kernel) rfl rfl) rfl rfl hl.1 rfl (lv_room (Nat.le_of_ble_eq_true rfl)) dX12_hold_117 ⟨Nat.le_of_ble_eq_true rfl, Nat.le_of_ble_eq_true rfl⟩) hS (fun q _ h => hFc q h) hFc (fun u_157 t H1 locs ht hvm hr_156 hB hz1 hk1 hS => ?_)
                    obtain ⟨f_158, f_159⟩ := u_157
                    obtain ⟨hP1, hD1⟩ := hB
                    rw [ht] at hP1
                    obtain ⟨hP, hD⟩ := va_repl [(h0, .inr (9, fs0)), (h1, .inr (1, fs1)), (h2, .inr (8, [v0, v1, .ref p0, .ref p1, v4, .int n])), (p0, .inl (T 1, 676, .inr (.inl f_158))), (p1, .inl (T 1, 676, .inr (.inl f_159))), (h3, .inl (T 7, 4, .inr (.inr (.inr (.inr (va_up (va_up (va_up (va_up (fun _ => none) 0 (some t0)) 1 (some t1)) 2 (some t2)) 3 (some t3))))))), (t0, .inr (3, [.int (jz 0), .int (jn 0), .long (ja 0), .long (jb 0)])), (t1, .inr (3, [.int x2, .int (x3.toInt32), .long (ja 1), .long (jb 1)])), (t2, .inr (3, [.int (jz 2), .int (jn 2), .long (ja 2), .long (jb 2)])), (t3, .inr (3, [.int (jz 3), .int (jn 3), .long (ja 3), .long (jb 3)]))] hP hD [2, 3, 4] [2, 3, 4] rfl (by decide +kernel) rfl rfl rfl hk1 hP1
                    clear hP1 hD1 hFc
                    generalize H1 = H at hP hS ⊢
                    refine lv_aload hx hb dX12_hold_120 (lv_at hl 1 rfl) ?_
                    refine lv_aload_n hx hb dX12_hold_122 rfl (lv_at hl 2 rfl) ?_
                    refine va_get (D := D) (ci := 9) (v := .ref h2) (C := RX12) (T := TX12) (N := 11) hx hb hts in_X12_hold_X12 hown hE.1 hP 0 rfl rfl 6 (by decide +kernel) (hts (.fieldLink RX12 43 "ClauseBook" "worth" "LClauseBook$Worth;") (List.mem_of_getElem? (i := 7) rfl)) (fun _ h9 => h9) e0_6 dX12_hold_123 ?_
                    refine va_get (D := D) (ci := 8) (v := .ref p0) (C := RX11) (T := TX11) (N := 6) hx hb hts in_X12_hold_X11 hown hE.1 hP 2 rfl rfl 2 (by decide +kernel) (hts (.fieldLink RX12 202 "ClauseBook$Worth" "above" "[J") (List.mem_of_getElem? (i := 8) rfl)) (fun _ h9 => h9) rfl dX12_hold_126 ?_
                    refine lv_sipush (v := 675) hx hb dX12_hold_129 (by decide +kernel) ?_
                    refine va_lald hx hb hE.1 hP 3 1 rfl rfl (by unfold vp_in; decide) dX12_hold_132 ?_
                    refine lv_topl (fun z_160 ez_160 => ?_)
                    refine va_put (D := D) (ci := 3) (v := .long z_160) (ty := .long) (C := RX4) (T := TX4) (N := 4) hx hb hts in_X12_hold_X4 tyX4 tyX4_ok nmX4 hown hE.1 hP hD hS 7 rfl rfl 2 (by decide +kernel) (hts (.fieldLink RX12 365 "ClauseBook$Hand" "above" "J") (List.mem_of_getElem? (i := 9) rfl)) (fun _ h9 => h9) rfl (by decide +kernel) rfl rfl (Nat.le_of_ble_eq_true rfl) dX12_hold_133 (fun H locs hP hD hS => ?_)
                    obtain ⟨hP, hD⟩ := wPD [(h0, .inr (9, fs0)), (h1, .inr (1, fs1)), (h2, .inr (8, [v0, v1, .ref p0, .ref p1, v4, .int n])), (p0, .inl (T 1, 676, .inr (.inl f_158))), (p1, .inl (T 1, 676, .inr (.inl f_159))), (h3, .inl (T 7, 4, .inr (.inr (.inr (.inr (va_up (va_up (va_up (va_up (fun _ => none) 0 (some t0)) 1 (some t1)) 2 (some t2)) 3 (some t3))))))), (t0, .inr (3, [.int (jz 0), .int (jn 0), .long (ja 0), .long (jb 0)])), (t1, .inr (3, [.int x2, .int (x3.toInt32), .long z_160, .long (jb 1)])), (t2, .inr (3, [.int (jz 2), .int (jn 2), .long (ja 2), .long (jb 2)])), (t3, .inr (3, [.int (jz 3), .int (jn 3), .long (ja 3), .long (jb 3)]))] hP hD rfl
                    refine lv_aload hx hb dX12_hold_136 (lv_at hl 1 rfl) ?_
                    refine lv_aload_n hx hb dX12_hold_138 rfl (lv_at hl 2 rfl) ?_
                    refine va_get (D := D) (ci := 9) (v := .ref h2) (C := RX12) (T := TX12) (N := 11) hx hb hts in_X12_hold_X12 hown hE.1 hP 0 rfl rfl 6 (by decide +kernel) (hts (.fieldLink RX12 43 "ClauseBook" "worth" "LClauseBook$Worth;") (List.mem_of_getElem? (i := 7) rfl)) (fun _ h9 => h9) e0_6 dX12_hold_139 ?_
                    refine va_get (D := D) (ci := 8) (v := .ref p1) (C := RX11) (T := TX11) (N := 6) hx hb hts in_X12_hold_X11 hown hE.1 hP 2 rfl rfl 3 (by decide +kernel) (hts (.fieldLink RX12 206 "ClauseBook$Worth" "below" "[J") (List.mem_of_getElem? (i := 10) rfl)) (fun _ h9 => h9) rfl dX12_hold_142 ?_
                    refine lv_sipush (v := 675) hx hb dX12_hold_145 (by decide +kernel) ?_
                    refine va_lald hx hb hE.1 hP 4 1 rfl rfl (by unfold vp_in; decide) dX12_hold_148 ?_
                    refine lv_topl (fun z_161 ez_161 => ?_)
                    refine va_put (D := D) (ci := 3) (v := .long z_161) (ty := .long) (C := RX4) (T := TX4) (N := 4) hx hb hts in_X12_hold_X4 tyX4 tyX4_ok nmX4 hown hE.1 hP hD hS 7 rfl rfl 3 (by decide +kernel) (hts (.fieldLink RX12 368 "ClauseBook$Hand" "below" "J") (List.mem_of_getElem? (i := 11) rfl)) (fun _ h9 => h9) rfl (by decide +kernel) rfl rfl (Nat.le_of_ble_eq_true rfl) dX12_hold_149 (fun H locs hP hD hS => ?_)
                    obtain ⟨hP, hD⟩ := wPD [(h0, .inr (9, fs0)), (h1, .inr (1, fs1)), (h2, .inr (8, [v0, v1, .ref p0, .ref p1, v4, .int n])), (p0, .inl (T 1, 676, .inr (.inl f_158))), (p1, .inl (T 1, 676, .inr (.inl f_159))), (h3, .inl (T 7, 4, .inr (.inr (.inr (.inr (va_up (va_up (va_up (va_up (fun _ => none) 0 (some t0)) 1 (some t1)) 2 (some t2)) 3 (some t3))))))), (t0, .inr (3, [.int (jz 0), .int (jn 0), .long (ja 0), .long (jb 0)])), (t1, .inr (3, [.int x2, .int (x3.toInt32), .long z_160, .long z_161])), (t2, .inr (3, [.int (jz 2), .int (jn 2), .long (ja 2), .long (jb 2)])), (t3, .inr (3, [.int (jz 3), .int (jn 3), .long (ja 3), .long (jb 3)]))] hP hD rfl
                    refine lv_iload hx hb dX12_hold_152 (lv_at hl 0 rfl) ?_
                    exact W.iret hx hb hr (fun t ht hW => ⟨⟨_, (f_158, f_159, (fun k => [(jz 0), x2, (jz 2), (jz 3)].getD k 0), (fun k => [(jn 0), (x3.toInt32), (jn 2), (jn 3)].getD k 0), (fun k => [(ja 0), z_160, (ja 2), (ja 3)].getD k 0), (fun k => [(jb 0), z_161, (jb 2), (jb 3)].getD k 0)), rfl, (Or.inr ⟨⟨⟨by decide, by decide⟩, by omega, (fun h9 => by omega), (fun h9 => by omega)⟩, rfl, all4' ⟨(fun h9 => absurd h9 (by decide +kernel)), (fun _ => ⟨rfl, rfl⟩)⟩ ⟨(fun _ => ⟨rfl, (fun h9 => by first | rfl | (exfalso; omega))⟩), (fun h9 => absurd (by decide +kernel) h9)⟩ ⟨(fun h9 => absurd h9 (by decide +kernel)), (fun _ => ⟨rfl, rfl⟩)⟩ ⟨(fun h9 => absurd h9 (by decide +kernel)), (fun _ => ⟨rfl, rfl⟩)⟩⟩), by rw [ht]; exact hP.sub [0, 1, 2, 3, 4, 5, 6, 7, 8, 9] rfl, hD.sub [0, 1, 2, 3, 4, 5, 6, 7, 8, 9] (by decide +kernel) rfl⟩, hS.F ht⟩) hS.2.2 dX12_hold_154
              · refine va_aldq hx hb hE.1 hP 5 7 rfl rfl (by unfold vp_in; decide) dX12_hold_74 ?_
                refine W.eq (g2 := F0 m 75 ls [.ref t2]) rfl ?_
                refine lv_astore (lv' := [(7, .ref t2), (0, .ref h0), (1, .int 2), (2, .int x2), (3, .long x3), (5, .long x4)]) hx hb dX12_hold_75 hl (by decide +kernel) rfl (fun ls hl => ?_)
                refine lv_aload hx hb dX12_hold_77 (lv_at hl 0 rfl) ?_
                refine va_get (D := D) (ci := 3) (v := .int (jz 2)) (C := RX4) (T := TX4) (N := 4) hx hb hts in_X12_hold_X4 hown hE.1 hP 8 rfl rfl 0 (by decide +kernel) (hts (.fieldLink RX12 359 "ClauseBook$Hand" "sort" "I") (List.mem_of_getElem? (i := 5) rfl)) (fun _ h9 => h9) rfl dX12_hold_79 ?_
                refine lv_istore (lv' := [(8, .int (jz 2)), (7, .ref t2), (0, .ref h0), (1, .int 2), (2, .int x2), (3, .long x3), (5, .long x4)]) hx hb dX12_hold_82 hl (by decide +kernel) rfl (fun ls hl => ?_)
                refine lv_aload hx hb dX12_hold_84 (lv_at hl 1 rfl) ?_
                refine lv_iload_n hx hb dX12_hold_86 rfl (lv_at hl 4 rfl) ?_
                refine va_put (D := D) (ci := 3) (v := .int x2) (ty := .int) (C := RX4) (T := TX4) (N := 4) hx hb hts in_X12_hold_X4 tyX4 tyX4_ok nmX4 hown hE.1 hP hD hS 8 rfl rfl 0 (by decide +kernel) (hts (.fieldLink RX12 359 "ClauseBook$Hand" "sort" "I") (List.mem_of_getElem? (i := 5) rfl)) (fun _ h9 => h9) rfl (by decide +kernel) rfl rfl (Nat.le_of_ble_eq_true rfl) dX12_hold_87 (fun H locs hP hD hS => ?_)
                obtain ⟨hP, hD⟩ := wPD [(h0, .inr (9, fs0)), (h1, .inr (1, fs1)), (h2, .inr (8, [v0, v1, .ref p0, .ref p1, v4, .int n])), (p0, .inl (T 1, 676, .inr (.inl f0))), (p1, .inl (T 1, 676, .inr (.inl f1))), (h3, .inl (T 7, 4, .inr (.inr (.inr (.inr (va_up (va_up (va_up (va_up (fun _ => none) 0 (some t0)) 1 (some t1)) 2 (some t2)) 3 (some t3))))))), (t0, .inr (3, [.int (jz 0), .int (jn 0), .long (ja 0), .long (jb 0)])), (t1, .inr (3, [.int (jz 1), .int (jn 1), .long (ja 1), .long (jb 1)])), (t2, .inr (3, [.int x2, .int (jn 2), .long (ja 2), .long (jb 2)])), (t3, .inr (3, [.int (jz 3), .int (jn 3), .long (ja 3), .long (jb 3)]))] hP hD rfl
                refine lv_iload_n hx hb dX12_hold_90 rfl (lv_at hl 4 rfl) ?_
                refine lv_iconst (v := 1) hx hb dX12_hold_91 (by decide +kernel) ?_
                refine lv_icmp_ne (tgt := 102) hx hb dX12_hold_92 (by decide +kernel) (fun c_162 => ?_) (fun c_162 => ?_)
                · rw [fa_eq] at c_162
                  try rw [ti_1] at c_162
                  refine lv_iload_n hx hb dX12_hold_102 rfl (lv_at hl 4 rfl) ?_
                  refine lv_iconst (v := 2) hx hb dX12_hold_103 (by decide +kernel) ?_
                  refine lv_icmp_ne (tgt := 152) hx hb dX12_hold_104 (by decide +kernel) (fun c_163 => ?_) (fun c_163 => ?_)
                  · rw [fa_eq] at c_163
                    try rw [ti_2] at c_163
                    refine lv_iload hx hb dX12_hold_152 (lv_at hl 0 rfl) ?_
                    exact W.iret hx hb hr (fun t ht hW => ⟨⟨_, (f0, f1, (fun k => [(jz 0), (jz 1), x2, (jz 3)].getD k 0), (fun k => [(jn 0), (jn 1), (jn 2), (jn 3)].getD k 0), (fun k => [(ja 0), (ja 1), (ja 2), (ja 3)].getD k 0), (fun k => [(jb 0), (jb 1), (jb 2), (jb 3)].getD k 0)), rfl, (Or.inr ⟨⟨⟨by decide, by decide⟩, by omega, (fun h9 => by omega), (fun h9 => by omega)⟩, rfl, all4' ⟨(fun h9 => absurd h9 (by decide +kernel)), (fun _ => ⟨rfl, rfl⟩)⟩ ⟨(fun h9 => absurd h9 (by decide +kernel)), (fun _ => ⟨rfl, rfl⟩)⟩ ⟨(fun _ => ⟨rfl, (fun h9 => by first | rfl | (exfalso; omega))⟩), (fun h9 => absurd (by decide +kernel) h9)⟩ ⟨(fun h9 => absurd h9 (by decide +kernel)), (fun _ => ⟨rfl, rfl⟩)⟩⟩), by rw [ht]; exact hP.sub [0, 1, 2, 3, 4, 5, 6, 7, 8, 9] rfl, hD.sub [0, 1, 2, 3, 4, 5, 6, 7, 8, 9] (by decide +kernel) rfl⟩, hS.F ht⟩) hS.2.2 dX12_hold_154
                  · rw [fa_eq] at c_163
                    try rw [ti_2] at c_163
                    refine lv_aload_n hx hb dX12_hold_107 rfl (lv_at hl 2 rfl) ?_
                    refine va_get (D := D) (ci := 9) (v := .ref h2) (C := RX12) (T := TX12) (N := 11) hx hb hts in_X12_hold_X12 hown hE.1 hP 0 rfl rfl 6 (by decide +kernel) (hts (.fieldLink RX12 43 "ClauseBook" "worth" "LClauseBook$Worth;") (List.mem_of_getElem? (i := 7) rfl)) (fun _ h9 => h9) e0_6 dX12_hold_108 ?_
                    refine lv_sipush (v := 675) hx hb dX12_hold_111 (by decide +kernel) ?_
                    refine lv_lload_n hx hb dX12_hold_114 rfl (lv_at hl 5 rfl) ?_
                    refine lv_lload hx hb dX12_hold_115 (lv_at hl 6 rfl) ?_
                    have hFc := va_free (wc := [(h2, .inr (8, [v0, v1, .ref p0, .ref p1, v4, .int n])), (p0, .inl (T 1, 676, .inr (.inl f0))), (p1, .inl (T 1, 676, .inr (.inl f1)))]) hD hS hA [2, 3, 4] rfl
                    refine va_callv (va_runV (As := [.int 675, .long x3, .long x4]) (rest := []) ⟨hx, hb, hml, hown, hts⟩ (c_X11_reduce l D T _ h2 p0 p1 (v0) (v1) (v4) n f0 f1 675 x3 x4 (by first | decide | omega)) (cwV 3 hts gX12_hold_X11_reduce rfl rfl rfl hv_X11_reduce ⟨Nat.le_of_ble_eq_true rfl, Nat.le_of_ble_eq_true rfl⟩) (pW_V (q := (RX11, TX11, 6)) (ci := 8) (q0 := 2) hP hE hD rfl rfl [2, 3, 4] (by decide +kernel) rfl rfl) rfl rfl hl.1 rfl (lv_room (Nat.le_of_ble_eq_true rfl)) dX12_hold_117 ⟨Nat.le_of_ble_eq_true rfl, Nat.le_of_ble_eq_true rfl⟩) hS (fun q _ h => hFc q h) hFc (fun u_165 t H1 locs ht hvm hr_164 hB hz1 hk1 hS => ?_)
                    obtain ⟨f_166, f_167⟩ := u_165
                    obtain ⟨hP1, hD1⟩ := hB
                    rw [ht] at hP1
                    obtain ⟨hP, hD⟩ := va_repl [(h0, .inr (9, fs0)), (h1, .inr (1, fs1)), (h2, .inr (8, [v0, v1, .ref p0, .ref p1, v4, .int n])), (p0, .inl (T 1, 676, .inr (.inl f_166))), (p1, .inl (T 1, 676, .inr (.inl f_167))), (h3, .inl (T 7, 4, .inr (.inr (.inr (.inr (va_up (va_up (va_up (va_up (fun _ => none) 0 (some t0)) 1 (some t1)) 2 (some t2)) 3 (some t3))))))), (t0, .inr (3, [.int (jz 0), .int (jn 0), .long (ja 0), .long (jb 0)])), (t1, .inr (3, [.int (jz 1), .int (jn 1), .long (ja 1), .long (jb 1)])), (t2, .inr (3, [.int x2, .int (jn 2), .long (ja 2), .long (jb 2)])), (t3, .inr (3, [.int (jz 3), .int (jn 3), .long (ja 3), .long (jb 3)]))] hP hD [2, 3, 4] [2, 3, 4] rfl (by decide +kernel) rfl rfl rfl hk1 hP1
                    clear hP1 hD1 hFc
                    generalize H1 = H at hP hS ⊢
                    refine lv_aload hx hb dX12_hold_120 (lv_at hl 1 rfl) ?_
                    refine lv_aload_n hx hb dX12_hold_122 rfl (lv_at hl 2 rfl) ?_
                    refine va_get (D := D) (ci := 9) (v := .ref h2) (C := RX12) (T := TX12) (N := 11) hx hb hts in_X12_hold_X12 hown hE.1 hP 0 rfl rfl 6 (by decide +kernel) (hts (.fieldLink RX12 43 "ClauseBook" "worth" "LClauseBook$Worth;") (List.mem_of_getElem? (i := 7) rfl)) (fun _ h9 => h9) e0_6 dX12_hold_123 ?_
                    refine va_get (D := D) (ci := 8) (v := .ref p0) (C := RX11) (T := TX11) (N := 6) hx hb hts in_X12_hold_X11 hown hE.1 hP 2 rfl rfl 2 (by decide +kernel) (hts (.fieldLink RX12 202 "ClauseBook$Worth" "above" "[J") (List.mem_of_getElem? (i := 8) rfl)) (fun _ h9 => h9) rfl dX12_hold_126 ?_
                    refine lv_sipush (v := 675) hx hb dX12_hold_129 (by decide +kernel) ?_
                    refine va_lald hx hb hE.1 hP 3 1 rfl rfl (by unfold vp_in; decide) dX12_hold_132 ?_
                    refine lv_topl (fun z_168 ez_168 => ?_)
                    refine va_put (D := D) (ci := 3) (v := .long z_168) (ty := .long) (C := RX4) (T := TX4) (N := 4) hx hb hts in_X12_hold_X4 tyX4 tyX4_ok nmX4 hown hE.1 hP hD hS 8 rfl rfl 2 (by decide +kernel) (hts (.fieldLink RX12 365 "ClauseBook$Hand" "above" "J") (List.mem_of_getElem? (i := 9) rfl)) (fun _ h9 => h9) rfl (by decide +kernel) rfl rfl (Nat.le_of_ble_eq_true rfl) dX12_hold_133 (fun H locs hP hD hS => ?_)
                    obtain ⟨hP, hD⟩ := wPD [(h0, .inr (9, fs0)), (h1, .inr (1, fs1)), (h2, .inr (8, [v0, v1, .ref p0, .ref p1, v4, .int n])), (p0, .inl (T 1, 676, .inr (.inl f_166))), (p1, .inl (T 1, 676, .inr (.inl f_167))), (h3, .inl (T 7, 4, .inr (.inr (.inr (.inr (va_up (va_up (va_up (va_up (fun _ => none) 0 (some t0)) 1 (some t1)) 2 (some t2)) 3 (some t3))))))), (t0, .inr (3, [.int (jz 0), .int (jn 0), .long (ja 0), .long (jb 0)])), (t1, .inr (3, [.int (jz 1), .int (jn 1), .long (ja 1), .long (jb 1)])), (t2, .inr (3, [.int x2, .int (jn 2), .long z_168, .long (jb 2)])), (t3, .inr (3, [.int (jz 3), .int (jn 3), .long (ja 3), .long (jb 3)]))] hP hD rfl
                    refine lv_aload hx hb dX12_hold_136 (lv_at hl 1 rfl) ?_
                    refine lv_aload_n hx hb dX12_hold_138 rfl (lv_at hl 2 rfl) ?_
                    refine va_get (D := D) (ci := 9) (v := .ref h2) (C := RX12) (T := TX12) (N := 11) hx hb hts in_X12_hold_X12 hown hE.1 hP 0 rfl rfl 6 (by decide +kernel) (hts (.fieldLink RX12 43 "ClauseBook" "worth" "LClauseBook$Worth;") (List.mem_of_getElem? (i := 7) rfl)) (fun _ h9 => h9) e0_6 dX12_hold_139 ?_
                    refine va_get (D := D) (ci := 8) (v := .ref p1) (C := RX11) (T := TX11) (N := 6) hx hb hts in_X12_hold_X11 hown hE.1 hP 2 rfl rfl 3 (by decide +kernel) (hts (.fieldLink RX12 206 "ClauseBook$Worth" "below" "[J") (List.mem_of_getElem? (i := 10) rfl)) (fun _ h9 => h9) rfl dX12_hold_142 ?_
                    refine lv_sipush (v := 675) hx hb dX12_hold_145 (by decide +kernel) ?_
                    refine va_lald hx hb hE.1 hP 4 1 rfl rfl (by unfold vp_in; decide) dX12_hold_148 ?_
                    refine lv_topl (fun z_169 ez_169 => ?_)
                    refine va_put (D := D) (ci := 3) (v := .long z_169) (ty := .long) (C := RX4) (T := TX4) (N := 4) hx hb hts in_X12_hold_X4 tyX4 tyX4_ok nmX4 hown hE.1 hP hD hS 8 rfl rfl 3 (by decide +kernel) (hts (.fieldLink RX12 368 "ClauseBook$Hand" "below" "J") (List.mem_of_getElem? (i := 11) rfl)) (fun _ h9 => h9) rfl (by decide +kernel) rfl rfl (Nat.le_of_ble_eq_true rfl) dX12_hold_149 (fun H locs hP hD hS => ?_)
                    obtain ⟨hP, hD⟩ := wPD [(h0, .inr (9, fs0)), (h1, .inr (1, fs1)), (h2, .inr (8, [v0, v1, .ref p0, .ref p1, v4, .int n])), (p0, .inl (T 1, 676, .inr (.inl f_166))), (p1, .inl (T 1, 676, .inr (.inl f_167))), (h3, .inl (T 7, 4, .inr (.inr (.inr (.inr (va_up (va_up (va_up (va_up (fun _ => none) 0 (some t0)) 1 (some t1)) 2 (some t2)) 3 (some t3))))))), (t0, .inr (3, [.int (jz 0), .int (jn 0), .long (ja 0), .long (jb 0)])), (t1, .inr (3, [.int (jz 1), .int (jn 1), .long (ja 1), .long (jb 1)])), (t2, .inr (3, [.int x2, .int (jn 2), .long z_168, .long z_169])), (t3, .inr (3, [.int (jz 3), .int (jn 3), .long (ja 3), .long (jb 3)]))] hP hD rfl
                    refine lv_iload hx hb dX12_hold_152 (lv_at hl 0 rfl) ?_
                    exact W.iret hx hb hr (fun t ht hW => ⟨⟨_, (f_166, f_167, (fun k => [(jz 0), (jz 1), x2, (jz 3)].getD k 0), (fun k => [(jn 0), (jn 1), (jn 2), (jn 3)].getD k 0), (fun k => [(ja 0), (ja 1), z_168, (ja 3)].getD k 0), (fun k => [(jb 0), (jb 1), z_169, (jb 3)].getD k 0)), rfl, (Or.inr ⟨⟨⟨by decide, by decide⟩, by omega, (fun h9 => by omega), (fun h9 => by omega)⟩, rfl, all4' ⟨(fun h9 => absurd h9 (by decide +kernel)), (fun _ => ⟨rfl, rfl⟩)⟩ ⟨(fun h9 => absurd h9 (by decide +kernel)), (fun _ => ⟨rfl, rfl⟩)⟩ ⟨(fun _ => ⟨rfl, (fun h9 => by first | rfl | (exfalso; omega))⟩), (fun h9 => absurd (by decide +kernel) h9)⟩ ⟨(fun h9 => absurd h9 (by decide +kernel)), (fun _ => ⟨rfl, rfl⟩)⟩⟩), by rw [ht]; exact hP.sub [0, 1, 2, 3, 4, 5, 6, 7, 8, 9] rfl, hD.sub [0, 1, 2, 3, 4, 5, 6, 7, 8, 9] (by decide +kernel) rfl⟩, hS.F ht⟩) hS.2.2 dX12_hold_154
                · rw [fa_eq] at c_162
                  try rw [ti_1] at c_162
                  refine lv_aload hx hb dX12_hold_95 (lv_at hl 1 rfl) ?_
                  refine lv_lload_n hx hb dX12_hold_97 rfl (lv_at hl 5 rfl) ?_
                  refine lv_l2i hx hb dX12_hold_98 rfl ?_
                  refine va_put (D := D) (ci := 3) (v := .int (x3.toInt32)) (ty := .int) (C := RX4) (T := TX4) (N := 4) hx hb hts in_X12_hold_X4 tyX4 tyX4_ok nmX4 hown hE.1 hP hD hS 8 rfl rfl 1 (by decide +kernel) (hts (.fieldLink RX12 360 "ClauseBook$Hand" "number" "I") (List.mem_of_getElem? (i := 6) rfl)) (fun _ h9 => h9) rfl (by decide +kernel) rfl rfl (Nat.le_of_ble_eq_true rfl) dX12_hold_99 (fun H locs hP hD hS => ?_)
                  obtain ⟨hP, hD⟩ := wPD [(h0, .inr (9, fs0)), (h1, .inr (1, fs1)), (h2, .inr (8, [v0, v1, .ref p0, .ref p1, v4, .int n])), (p0, .inl (T 1, 676, .inr (.inl f0))), (p1, .inl (T 1, 676, .inr (.inl f1))), (h3, .inl (T 7, 4, .inr (.inr (.inr (.inr (va_up (va_up (va_up (va_up (fun _ => none) 0 (some t0)) 1 (some t1)) 2 (some t2)) 3 (some t3))))))), (t0, .inr (3, [.int (jz 0), .int (jn 0), .long (ja 0), .long (jb 0)])), (t1, .inr (3, [.int (jz 1), .int (jn 1), .long (ja 1), .long (jb 1)])), (t2, .inr (3, [.int x2, .int (x3.toInt32), .long (ja 2), .long (jb 2)])), (t3, .inr (3, [.int (jz 3), .int (jn 3), .long (ja 3), .long (jb 3)]))] hP hD rfl
                  refine lv_iload_n hx hb dX12_hold_102 rfl (lv_at hl 4 rfl) ?_
                  refine lv_iconst (v := 2) hx hb dX12_hold_103 (by decide +kernel) ?_
                  refine lv_icmp_ne (tgt := 152) hx hb dX12_hold_104 (by decide +kernel) (fun c_170 => ?_) (fun c_170 => ?_)
                  · rw [fa_eq] at c_170
                    try rw [ti_2] at c_170
                    refine lv_iload hx hb dX12_hold_152 (lv_at hl 0 rfl) ?_
                    exact W.iret hx hb hr (fun t ht hW => ⟨⟨_, (f0, f1, (fun k => [(jz 0), (jz 1), x2, (jz 3)].getD k 0), (fun k => [(jn 0), (jn 1), (x3.toInt32), (jn 3)].getD k 0), (fun k => [(ja 0), (ja 1), (ja 2), (ja 3)].getD k 0), (fun k => [(jb 0), (jb 1), (jb 2), (jb 3)].getD k 0)), rfl, (Or.inr ⟨⟨⟨by decide, by decide⟩, by omega, (fun h9 => by omega), (fun h9 => by omega)⟩, rfl, all4' ⟨(fun h9 => absurd h9 (by decide +kernel)), (fun _ => ⟨rfl, rfl⟩)⟩ ⟨(fun h9 => absurd h9 (by decide +kernel)), (fun _ => ⟨rfl, rfl⟩)⟩ ⟨(fun _ => ⟨rfl, (fun h9 => by first | rfl | (exfalso; omega))⟩), (fun h9 => absurd (by decide +kernel) h9)⟩ ⟨(fun h9 => absurd h9 (by decide +kernel)), (fun _ => ⟨rfl, rfl⟩)⟩⟩), by rw [ht]; exact hP.sub [0, 1, 2, 3, 4, 5, 6, 7, 8, 9] rfl, hD.sub [0, 1, 2, 3, 4, 5, 6, 7, 8, 9] (by decide +kernel) rfl⟩, hS.F ht⟩) hS.2.2 dX12_hold_154
                  · rw [fa_eq] at c_170
                    try rw [ti_2] at c_170
                    refine lv_aload_n hx hb dX12_hold_107 rfl (lv_at hl 2 rfl) ?_
                    refine va_get (D := D) (ci := 9) (v := .ref h2) (C := RX12) (T := TX12) (N := 11) hx hb hts in_X12_hold_X12 hown hE.1 hP 0 rfl rfl 6 (by decide +kernel) (hts (.fieldLink RX12 43 "ClauseBook" "worth" "LClauseBook$Worth;") (List.mem_of_getElem? (i := 7) rfl)) (fun _ h9 => h9) e0_6 dX12_hold_108 ?_
                    refine lv_sipush (v := 675) hx hb dX12_hold_111 (by decide +kernel) ?_
                    refine lv_lload_n hx hb dX12_hold_114 rfl (lv_at hl 5 rfl) ?_
                    refine lv_lload hx hb dX12_hold_115 (lv_at hl 6 rfl) ?_
                    have hFc := va_free (wc := [(h2, .inr (8, [v0, v1, .ref p0, .ref p1, v4, .int n])), (p0, .inl (T 1, 676, .inr (.inl f0))), (p1, .inl (T 1, 676, .inr (.inl f1)))]) hD hS hA [2, 3, 4] rfl
                    refine va_callv (va_runV (As := [.int 675, .long x3, .long x4]) (rest := []) ⟨hx, hb, hml, hown, hts⟩ (c_X11_reduce l D T _ h2 p0 p1 (v0) (v1) (v4) n f0 f1 675 x3 x4 (by first | decide | omega)) (cwV 3 hts gX12_hold_X11_reduce rfl rfl rfl hv_X11_reduce ⟨Nat.le_of_ble_eq_true rfl, Nat.le_of_ble_eq_true rfl⟩) (pW_V (q := (RX11, TX11, 6)) (ci := 8) (q0 := 2) hP hE hD rfl rfl [2, 3, 4] (by decide +kernel) rfl rfl) rfl rfl hl.1 rfl (lv_room (Nat.le_of_ble_eq_true rfl)) dX12_hold_117 ⟨Nat.le_of_ble_eq_true rfl, Nat.le_of_ble_eq_true rfl⟩) hS (fun q _ h => hFc q h) hFc (fun u_172 t H1 locs ht hvm hr_171 hB hz1 hk1 hS => ?_)
                    obtain ⟨f_173, f_174⟩ := u_172
                    obtain ⟨hP1, hD1⟩ := hB
                    rw [ht] at hP1
                    obtain ⟨hP, hD⟩ := va_repl [(h0, .inr (9, fs0)), (h1, .inr (1, fs1)), (h2, .inr (8, [v0, v1, .ref p0, .ref p1, v4, .int n])), (p0, .inl (T 1, 676, .inr (.inl f_173))), (p1, .inl (T 1, 676, .inr (.inl f_174))), (h3, .inl (T 7, 4, .inr (.inr (.inr (.inr (va_up (va_up (va_up (va_up (fun _ => none) 0 (some t0)) 1 (some t1)) 2 (some t2)) 3 (some t3))))))), (t0, .inr (3, [.int (jz 0), .int (jn 0), .long (ja 0), .long (jb 0)])), (t1, .inr (3, [.int (jz 1), .int (jn 1), .long (ja 1), .long (jb 1)])), (t2, .inr (3, [.int x2, .int (x3.toInt32), .long (ja 2), .long (jb 2)])), (t3, .inr (3, [.int (jz 3), .int (jn 3), .long (ja 3), .long (jb 3)]))] hP hD [2, 3, 4] [2, 3, 4] rfl (by decide +kernel) rfl rfl rfl hk1 hP1
                    clear hP1 hD1 hFc
                    generalize H1 = H at hP hS ⊢
                    refine lv_aload hx hb dX12_hold_120 (lv_at hl 1 rfl) ?_
                    refine lv_aload_n hx hb dX12_hold_122 rfl (lv_at hl 2 rfl) ?_
                    refine va_get (D := D) (ci := 9) (v := .ref h2) (C := RX12) (T := TX12) (N := 11) hx hb hts in_X12_hold_X12 hown hE.1 hP 0 rfl rfl 6 (by decide +kernel) (hts (.fieldLink RX12 43 "ClauseBook" "worth" "LClauseBook$Worth;") (List.mem_of_getElem? (i := 7) rfl)) (fun _ h9 => h9) e0_6 dX12_hold_123 ?_
                    refine va_get (D := D) (ci := 8) (v := .ref p0) (C := RX11) (T := TX11) (N := 6) hx hb hts in_X12_hold_X11 hown hE.1 hP 2 rfl rfl 2 (by decide +kernel) (hts (.fieldLink RX12 202 "ClauseBook$Worth" "above" "[J") (List.mem_of_getElem? (i := 8) rfl)) (fun _ h9 => h9) rfl dX12_hold_126 ?_
                    refine lv_sipush (v := 675) hx hb dX12_hold_129 (by decide +kernel) ?_
                    refine va_lald hx hb hE.1 hP 3 1 rfl rfl (by unfold vp_in; decide) dX12_hold_132 ?_
                    refine lv_topl (fun z_175 ez_175 => ?_)
                    refine va_put (D := D) (ci := 3) (v := .long z_175) (ty := .long) (C := RX4) (T := TX4) (N := 4) hx hb hts in_X12_hold_X4 tyX4 tyX4_ok nmX4 hown hE.1 hP hD hS 8 rfl rfl 2 (by decide +kernel) (hts (.fieldLink RX12 365 "ClauseBook$Hand" "above" "J") (List.mem_of_getElem? (i := 9) rfl)) (fun _ h9 => h9) rfl (by decide +kernel) rfl rfl (Nat.le_of_ble_eq_true rfl) dX12_hold_133 (fun H locs hP hD hS => ?_)
                    obtain ⟨hP, hD⟩ := wPD [(h0, .inr (9, fs0)), (h1, .inr (1, fs1)), (h2, .inr (8, [v0, v1, .ref p0, .ref p1, v4, .int n])), (p0, .inl (T 1, 676, .inr (.inl f_173))), (p1, .inl (T 1, 676, .inr (.inl f_174))), (h3, .inl (T 7, 4, .inr (.inr (.inr (.inr (va_up (va_up (va_up (va_up (fun _ => none) 0 (some t0)) 1 (some t1)) 2 (some t2)) 3 (some t3))))))), (t0, .inr (3, [.int (jz 0), .int (jn 0), .long (ja 0), .long (jb 0)])), (t1, .inr (3, [.int (jz 1), .int (jn 1), .long (ja 1), .long (jb 1)])), (t2, .inr (3, [.int x2, .int (x3.toInt32), .long z_175, .long (jb 2)])), (t3, .inr (3, [.int (jz 3), .int (jn 3), .long (ja 3), .long (jb 3)]))] hP hD rfl
                    refine lv_aload hx hb dX12_hold_136 (lv_at hl 1 rfl) ?_
                    refine lv_aload_n hx hb dX12_hold_138 rfl (lv_at hl 2 rfl) ?_
                    refine va_get (D := D) (ci := 9) (v := .ref h2) (C := RX12) (T := TX12) (N := 11) hx hb hts in_X12_hold_X12 hown hE.1 hP 0 rfl rfl 6 (by decide +kernel) (hts (.fieldLink RX12 43 "ClauseBook" "worth" "LClauseBook$Worth;") (List.mem_of_getElem? (i := 7) rfl)) (fun _ h9 => h9) e0_6 dX12_hold_139 ?_
                    refine va_get (D := D) (ci := 8) (v := .ref p1) (C := RX11) (T := TX11) (N := 6) hx hb hts in_X12_hold_X11 hown hE.1 hP 2 rfl rfl 3 (by decide +kernel) (hts (.fieldLink RX12 206 "ClauseBook$Worth" "below" "[J") (List.mem_of_getElem? (i := 10) rfl)) (fun _ h9 => h9) rfl dX12_hold_142 ?_
                    refine lv_sipush (v := 675) hx hb dX12_hold_145 (by decide +kernel) ?_
                    refine va_lald hx hb hE.1 hP 4 1 rfl rfl (by unfold vp_in; decide) dX12_hold_148 ?_
                    refine lv_topl (fun z_176 ez_176 => ?_)
                    refine va_put (D := D) (ci := 3) (v := .long z_176) (ty := .long) (C := RX4) (T := TX4) (N := 4) hx hb hts in_X12_hold_X4 tyX4 tyX4_ok nmX4 hown hE.1 hP hD hS 8 rfl rfl 3 (by decide +kernel) (hts (.fieldLink RX12 368 "ClauseBook$Hand" "below" "J") (List.mem_of_getElem? (i := 11) rfl)) (fun _ h9 => h9) rfl (by decide +kernel) rfl rfl (Nat.le_of_ble_eq_true rfl) dX12_hold_149 (fun H locs hP hD hS => ?_)
                    obtain ⟨hP, hD⟩ := wPD [(h0, .inr (9, fs0)), (h1, .inr (1, fs1)), (h2, .inr (8, [v0, v1, .ref p0, .ref p1, v4, .int n])), (p0, .inl (T 1, 676, .inr (.inl f_173))), (p1, .inl (T 1, 676, .inr (.inl f_174))), (h3, .inl (T 7, 4, .inr (.inr (.inr (.inr (va_up (va_up (va_up (va_up (fun _ => none) 0 (some t0)) 1 (some t1)) 2 (some t2)) 3 (some t3))))))), (t0, .inr (3, [.int (jz 0), .int (jn 0), .long (ja 0), .long (jb 0)])), (t1, .inr (3, [.int (jz 1), .int (jn 1), .long (ja 1), .long (jb 1)])), (t2, .inr (3, [.int x2, .int (x3.toInt32), .long z_175, .long z_176])), (t3, .inr (3, [.int (jz 3), .int (jn 3), .long (ja 3), .long (jb 3)]))] hP hD rfl
                    refine lv_iload hx hb dX12_hold_152 (lv_at hl 0 rfl) ?_
                    exact W.iret hx hb hr (fun t ht hW => ⟨⟨_, (f_173, f_174, (fun k => [(jz 0), (jz 1), x2, (jz 3)].getD k 0), (fun k => [(jn 0), (jn 1), (x3.toInt32), (jn 3)].getD k 0), (fun k => [(ja 0), (ja 1), z_175, (ja 3)].getD k 0), (fun k => [(jb 0), (jb 1), z_176, (jb 3)].getD k 0)), rfl, (Or.inr ⟨⟨⟨by decide, by decide⟩, by omega, (fun h9 => by omega), (fun h9 => by omega)⟩, rfl, all4' ⟨(fun h9 => absurd h9 (by decide +kernel)), (fun _ => ⟨rfl, rfl⟩)⟩ ⟨(fun h9 => absurd h9 (by decide +kernel)), (fun _ => ⟨rfl, rfl⟩)⟩ ⟨(fun _ => ⟨rfl, (fun h9 => by first | rfl | (exfalso; omega))⟩), (fun h9 => absurd (by decide +kernel) h9)⟩ ⟨(fun h9 => absurd h9 (by decide +kernel)), (fun _ => ⟨rfl, rfl⟩)⟩⟩), by rw [ht]; exact hP.sub [0, 1, 2, 3, 4, 5, 6, 7, 8, 9] rfl, hD.sub [0, 1, 2, 3, 4, 5, 6, 7, 8, 9] (by decide +kernel) rfl⟩, hS.F ht⟩) hS.2.2 dX12_hold_154
              · refine va_aldq hx hb hE.1 hP 5 7 rfl rfl (by unfold vp_in; decide) dX12_hold_74 ?_
                refine W.eq (g2 := F0 m 75 ls [.ref t3]) rfl ?_
                refine lv_astore (lv' := [(7, .ref t3), (0, .ref h0), (1, .int 3), (2, .int x2), (3, .long x3), (5, .long x4)]) hx hb dX12_hold_75 hl (by decide +kernel) rfl (fun ls hl => ?_)
                refine lv_aload hx hb dX12_hold_77 (lv_at hl 0 rfl) ?_
                refine va_get (D := D) (ci := 3) (v := .int (jz 3)) (C := RX4) (T := TX4) (N := 4) hx hb hts in_X12_hold_X4 hown hE.1 hP 9 rfl rfl 0 (by decide +kernel) (hts (.fieldLink RX12 359 "ClauseBook$Hand" "sort" "I") (List.mem_of_getElem? (i := 5) rfl)) (fun _ h9 => h9) rfl dX12_hold_79 ?_
                refine lv_istore (lv' := [(8, .int (jz 3)), (7, .ref t3), (0, .ref h0), (1, .int 3), (2, .int x2), (3, .long x3), (5, .long x4)]) hx hb dX12_hold_82 hl (by decide +kernel) rfl (fun ls hl => ?_)
                refine lv_aload hx hb dX12_hold_84 (lv_at hl 1 rfl) ?_
                refine lv_iload_n hx hb dX12_hold_86 rfl (lv_at hl 4 rfl) ?_
                refine va_put (D := D) (ci := 3) (v := .int x2) (ty := .int) (C := RX4) (T := TX4) (N := 4) hx hb hts in_X12_hold_X4 tyX4 tyX4_ok nmX4 hown hE.1 hP hD hS 9 rfl rfl 0 (by decide +kernel) (hts (.fieldLink RX12 359 "ClauseBook$Hand" "sort" "I") (List.mem_of_getElem? (i := 5) rfl)) (fun _ h9 => h9) rfl (by decide +kernel) rfl rfl (Nat.le_of_ble_eq_true rfl) dX12_hold_87 (fun H locs hP hD hS => ?_)
                obtain ⟨hP, hD⟩ := wPD [(h0, .inr (9, fs0)), (h1, .inr (1, fs1)), (h2, .inr (8, [v0, v1, .ref p0, .ref p1, v4, .int n])), (p0, .inl (T 1, 676, .inr (.inl f0))), (p1, .inl (T 1, 676, .inr (.inl f1))), (h3, .inl (T 7, 4, .inr (.inr (.inr (.inr (va_up (va_up (va_up (va_up (fun _ => none) 0 (some t0)) 1 (some t1)) 2 (some t2)) 3 (some t3))))))), (t0, .inr (3, [.int (jz 0), .int (jn 0), .long (ja 0), .long (jb 0)])), (t1, .inr (3, [.int (jz 1), .int (jn 1), .long (ja 1), .long (jb 1)])), (t2, .inr (3, [.int (jz 2), .int (jn 2), .long (ja 2), .long (jb 2)])), (t3, .inr (3, [.int x2, .int (jn 3), .long (ja 3), .long (jb 3)]))] hP hD rfl
                refine lv_iload_n hx hb dX12_hold_90 rfl (lv_at hl 4 rfl) ?_
                refine lv_iconst (v := 1) hx hb dX12_hold_91 (by decide +kernel) ?_
                refine lv_icmp_ne (tgt := 102) hx hb dX12_hold_92 (by decide +kernel) (fun c_177 => ?_) (fun c_177 => ?_)
                · rw [fa_eq] at c_177
                  try rw [ti_1] at c_177
                  refine lv_iload_n hx hb dX12_hold_102 rfl (lv_at hl 4 rfl) ?_
                  refine lv_iconst (v := 2) hx hb dX12_hold_103 (by decide +kernel) ?_
                  refine lv_icmp_ne (tgt := 152) hx hb dX12_hold_104 (by decide +kernel) (fun c_178 => ?_) (fun c_178 => ?_)
                  · rw [fa_eq] at c_178
                    try rw [ti_2] at c_178
                    refine lv_iload hx hb dX12_hold_152 (lv_at hl 0 rfl) ?_
                    exact W.iret hx hb hr (fun t ht hW => ⟨⟨_, (f0, f1, (fun k => [(jz 0), (jz 1), (jz 2), x2].getD k 0), (fun k => [(jn 0), (jn 1), (jn 2), (jn 3)].getD k 0), (fun k => [(ja 0), (ja 1), (ja 2), (ja 3)].getD k 0), (fun k => [(jb 0), (jb 1), (jb 2), (jb 3)].getD k 0)), rfl, (Or.inr ⟨⟨⟨by decide, by decide⟩, by omega, (fun h9 => by omega), (fun h9 => by omega)⟩, rfl, all4' ⟨(fun h9 => absurd h9 (by decide +kernel)), (fun _ => ⟨rfl, rfl⟩)⟩ ⟨(fun h9 => absurd h9 (by decide +kernel)), (fun _ => ⟨rfl, rfl⟩)⟩ ⟨(fun h9 => absurd h9 (by decide +kernel)), (fun _ => ⟨rfl, rfl⟩)⟩ ⟨(fun _ => ⟨rfl, (fun h9 => by first | rfl | (exfalso; omega))⟩), (fun h9 => absurd (by decide +kernel) h9)⟩⟩), by rw [ht]; exact hP.sub [0, 1, 2, 3, 4, 5, 6, 7, 8, 9] rfl, hD.sub [0, 1, 2, 3, 4, 5, 6, 7, 8, 9] (by decide +kernel) rfl⟩, hS.F ht⟩) hS.2.2 dX12_hold_154
                  · rw [fa_eq] at c_178
                    try rw [ti_2] at c_178
                    refine lv_aload_n hx hb dX12_hold_107 rfl (lv_at hl 2 rfl) ?_
                    refine va_get (D := D) (ci := 9) (v := .ref h2) (C := RX12) (T := TX12) (N := 11) hx hb hts in_X12_hold_X12 hown hE.1 hP 0 rfl rfl 6 (by decide +kernel) (hts (.fieldLink RX12 43 "ClauseBook" "worth" "LClauseBook$Worth;") (List.mem_of_getElem? (i := 7) rfl)) (fun _ h9 => h9) e0_6 dX12_hold_108 ?_
                    refine lv_sipush (v := 675) hx hb dX12_hold_111 (by decide +kernel) ?_
                    refine lv_lload_n hx hb dX12_hold_114 rfl (lv_at hl 5 rfl) ?_
                    refine lv_lload hx hb dX12_hold_115 (lv_at hl 6 rfl) ?_
                    have hFc := va_free (wc := [(h2, .inr (8, [v0, v1, .ref p0, .ref p1, v4, .int n])), (p0, .inl (T 1, 676, .inr (.inl f0))), (p1, .inl (T 1, 676, .inr (.inl f1)))]) hD hS hA [2, 3, 4] rfl
                    refine va_callv (va_runV (As := [.int 675, .long x3, .long x4]) (rest := []) ⟨hx, hb, hml, hown, hts⟩ (c_X11_reduce l D T _ h2 p0 p1 (v0) (v1) (v4) n f0 f1 675 x3 x4 (by first | decide | omega)) (cwV 3 hts gX12_hold_X11_reduce rfl rfl rfl hv_X11_reduce ⟨Nat.le_of_ble_eq_true rfl, Nat.le_of_ble_eq_true rfl⟩) (pW_V (q := (RX11, TX11, 6)) (ci := 8) (q0 := 2) hP hE hD rfl rfl [2, 3, 4] (by decide +kernel) rfl rfl) rfl rfl hl.1 rfl (lv_room (Nat.le_of_ble_eq_true rfl)) dX12_hold_117 ⟨Nat.le_of_ble_eq_true rfl, Nat.le_of_ble_eq_true rfl⟩) hS (fun q _ h => hFc q h) hFc (fun u_180 t H1 locs ht hvm hr_179 hB hz1 hk1 hS => ?_)
                    obtain ⟨f_181, f_182⟩ := u_180
                    obtain ⟨hP1, hD1⟩ := hB
                    rw [ht] at hP1
                    obtain ⟨hP, hD⟩ := va_repl [(h0, .inr (9, fs0)), (h1, .inr (1, fs1)), (h2, .inr (8, [v0, v1, .ref p0, .ref p1, v4, .int n])), (p0, .inl (T 1, 676, .inr (.inl f_181))), (p1, .inl (T 1, 676, .inr (.inl f_182))), (h3, .inl (T 7, 4, .inr (.inr (.inr (.inr (va_up (va_up (va_up (va_up (fun _ => none) 0 (some t0)) 1 (some t1)) 2 (some t2)) 3 (some t3))))))), (t0, .inr (3, [.int (jz 0), .int (jn 0), .long (ja 0), .long (jb 0)])), (t1, .inr (3, [.int (jz 1), .int (jn 1), .long (ja 1), .long (jb 1)])), (t2, .inr (3, [.int (jz 2), .int (jn 2), .long (ja 2), .long (jb 2)])), (t3, .inr (3, [.int x2, .int (jn 3), .long (ja 3), .long (jb 3)]))] hP hD [2, 3, 4] [2, 3, 4] rfl (by decide +kernel) rfl rfl rfl hk1 hP1
                    clear hP1 hD1 hFc
                    generalize H1 = H at hP hS ⊢
                    refine lv_aload hx hb dX12_hold_120 (lv_at hl 1 rfl) ?_
                    refine lv_aload_n hx hb dX12_hold_122 rfl (lv_at hl 2 rfl) ?_
                    refine va_get (D := D) (ci := 9) (v := .ref h2) (C := RX12) (T := TX12) (N := 11) hx hb hts in_X12_hold_X12 hown hE.1 hP 0 rfl rfl 6 (by decide +kernel) (hts (.fieldLink RX12 43 "ClauseBook" "worth" "LClauseBook$Worth;") (List.mem_of_getElem? (i := 7) rfl)) (fun _ h9 => h9) e0_6 dX12_hold_123 ?_
                    refine va_get (D := D) (ci := 8) (v := .ref p0) (C := RX11) (T := TX11) (N := 6) hx hb hts in_X12_hold_X11 hown hE.1 hP 2 rfl rfl 2 (by decide +kernel) (hts (.fieldLink RX12 202 "ClauseBook$Worth" "above" "[J") (List.mem_of_getElem? (i := 8) rfl)) (fun _ h9 => h9) rfl dX12_hold_126 ?_
                    refine lv_sipush (v := 675) hx hb dX12_hold_129 (by decide +kernel) ?_
                    refine va_lald hx hb hE.1 hP 3 1 rfl rfl (by unfold vp_in; decide) dX12_hold_132 ?_
                    refine lv_topl (fun z_183 ez_183 => ?_)
                    refine va_put (D := D) (ci := 3) (v := .long z_183) (ty := .long) (C := RX4) (T := TX4) (N := 4) hx hb hts in_X12_hold_X4 tyX4 tyX4_ok nmX4 hown hE.1 hP hD hS 9 rfl rfl 2 (by decide +kernel) (hts (.fieldLink RX12 365 "ClauseBook$Hand" "above" "J") (List.mem_of_getElem? (i := 9) rfl)) (fun _ h9 => h9) rfl (by decide +kernel) rfl rfl (Nat.le_of_ble_eq_true rfl) dX12_hold_133 (fun H locs hP hD hS => ?_)
                    obtain ⟨hP, hD⟩ := wPD [(h0, .inr (9, fs0)), (h1, .inr (1, fs1)), (h2, .inr (8, [v0, v1, .ref p0, .ref p1, v4, .int n])), (p0, .inl (T 1, 676, .inr (.inl f_181))), (p1, .inl (T 1, 676, .inr (.inl f_182))), (h3, .inl (T 7, 4, .inr (.inr (.inr (.inr (va_up (va_up (va_up (va_up (fun _ => none) 0 (some t0)) 1 (some t1)) 2 (some t2)) 3 (some t3))))))), (t0, .inr (3, [.int (jz 0), .int (jn 0), .long (ja 0), .long (jb 0)])), (t1, .inr (3, [.int (jz 1), .int (jn 1), .long (ja 1), .long (jb 1)])), (t2, .inr (3, [.int (jz 2), .int (jn 2), .long (ja 2), .long (jb 2)])), (t3, .inr (3, [.int x2, .int (jn 3), .long z_183, .long (jb 3)]))] hP hD rfl
                    refine lv_aload hx hb dX12_hold_136 (lv_at hl 1 rfl) ?_
                    refine lv_aload_n hx hb dX12_hold_138 rfl (lv_at hl 2 rfl) ?_
                    refine va_get (D := D) (ci := 9) (v := .ref h2) (C := RX12) (T := TX12) (N := 11) hx hb hts in_X12_hold_X12 hown hE.1 hP 0 rfl rfl 6 (by decide +kernel) (hts (.fieldLink RX12 43 "ClauseBook" "worth" "LClauseBook$Worth;") (List.mem_of_getElem? (i := 7) rfl)) (fun _ h9 => h9) e0_6 dX12_hold_139 ?_
                    refine va_get (D := D) (ci := 8) (v := .ref p1) (C := RX11) (T := TX11) (N := 6) hx hb hts in_X12_hold_X11 hown hE.1 hP 2 rfl rfl 3 (by decide +kernel) (hts (.fieldLink RX12 206 "ClauseBook$Worth" "below" "[J") (List.mem_of_getElem? (i := 10) rfl)) (fun _ h9 => h9) rfl dX12_hold_142 ?_
                    refine lv_sipush (v := 675) hx hb dX12_hold_145 (by decide +kernel) ?_
                    refine va_lald hx hb hE.1 hP 4 1 rfl rfl (by unfold vp_in; decide) dX12_hold_148 ?_
                    refine lv_topl (fun z_184 ez_184 => ?_)
                    refine va_put (D := D) (ci := 3) (v := .long z_184) (ty := .long) (C := RX4) (T := TX4) (N := 4) hx hb hts in_X12_hold_X4 tyX4 tyX4_ok nmX4 hown hE.1 hP hD hS 9 rfl rfl 3 (by decide +kernel) (hts (.fieldLink RX12 368 "ClauseBook$Hand" "below" "J") (List.mem_of_getElem? (i := 11) rfl)) (fun _ h9 => h9) rfl (by decide +kernel) rfl rfl (Nat.le_of_ble_eq_true rfl) dX12_hold_149 (fun H locs hP hD hS => ?_)
                    obtain ⟨hP, hD⟩ := wPD [(h0, .inr (9, fs0)), (h1, .inr (1, fs1)), (h2, .inr (8, [v0, v1, .ref p0, .ref p1, v4, .int n])), (p0, .inl (T 1, 676, .inr (.inl f_181))), (p1, .inl (T 1, 676, .inr (.inl f_182))), (h3, .inl (T 7, 4, .inr (.inr (.inr (.inr (va_up (va_up (va_up (va_up (fun _ => none) 0 (some t0)) 1 (some t1)) 2 (some t2)) 3 (some t3))))))), (t0, .inr (3, [.int (jz 0), .int (jn 0), .long (ja 0), .long (jb 0)])), (t1, .inr (3, [.int (jz 1), .int (jn 1), .long (ja 1), .long (jb 1)])), (t2, .inr (3, [.int (jz 2), .int (jn 2), .long (ja 2), .long (jb 2)])), (t3, .inr (3, [.int x2, .int (jn 3), .long z_183, .long z_184]))] hP hD rfl
                    refine lv_iload hx hb dX12_hold_152 (lv_at hl 0 rfl) ?_
                    exact W.iret hx hb hr (fun t ht hW => ⟨⟨_, (f_181, f_182, (fun k => [(jz 0), (jz 1), (jz 2), x2].getD k 0), (fun k => [(jn 0), (jn 1), (jn 2), (jn 3)].getD k 0), (fun k => [(ja 0), (ja 1), (ja 2), z_183].getD k 0), (fun k => [(jb 0), (jb 1), (jb 2), z_184].getD k 0)), rfl, (Or.inr ⟨⟨⟨by decide, by decide⟩, by omega, (fun h9 => by omega), (fun h9 => by omega)⟩, rfl, all4' ⟨(fun h9 => absurd h9 (by decide +kernel)), (fun _ => ⟨rfl, rfl⟩)⟩ ⟨(fun h9 => absurd h9 (by decide +kernel)), (fun _ => ⟨rfl, rfl⟩)⟩ ⟨(fun h9 => absurd h9 (by decide +kernel)), (fun _ => ⟨rfl, rfl⟩)⟩ ⟨(fun _ => ⟨rfl, (fun h9 => by first | rfl | (exfalso; omega))⟩), (fun h9 => absurd (by decide +kernel) h9)⟩⟩), by rw [ht]; exact hP.sub [0, 1, 2, 3, 4, 5, 6, 7, 8, 9] rfl, hD.sub [0, 1, 2, 3, 4, 5, 6, 7, 8, 9] (by decide +kernel) rfl⟩, hS.F ht⟩) hS.2.2 dX12_hold_154
                · rw [fa_eq] at c_177
                  try rw [ti_1] at c_177
                  refine lv_aload hx hb dX12_hold_95 (lv_at hl 1 rfl) ?_
                  refine lv_lload_n hx hb dX12_hold_97 rfl (lv_at hl 5 rfl) ?_
                  refine lv_l2i hx hb dX12_hold_98 rfl ?_
                  refine va_put (D := D) (ci := 3) (v := .int (x3.toInt32)) (ty := .int) (C := RX4) (T := TX4) (N := 4) hx hb hts in_X12_hold_X4 tyX4 tyX4_ok nmX4 hown hE.1 hP hD hS 9 rfl rfl 1 (by decide +kernel) (hts (.fieldLink RX12 360 "ClauseBook$Hand" "number" "I") (List.mem_of_getElem? (i := 6) rfl)) (fun _ h9 => h9) rfl (by decide +kernel) rfl rfl (Nat.le_of_ble_eq_true rfl) dX12_hold_99 (fun H locs hP hD hS => ?_)
                  obtain ⟨hP, hD⟩ := wPD [(h0, .inr (9, fs0)), (h1, .inr (1, fs1)), (h2, .inr (8, [v0, v1, .ref p0, .ref p1, v4, .int n])), (p0, .inl (T 1, 676, .inr (.inl f0))), (p1, .inl (T 1, 676, .inr (.inl f1))), (h3, .inl (T 7, 4, .inr (.inr (.inr (.inr (va_up (va_up (va_up (va_up (fun _ => none) 0 (some t0)) 1 (some t1)) 2 (some t2)) 3 (some t3))))))), (t0, .inr (3, [.int (jz 0), .int (jn 0), .long (ja 0), .long (jb 0)])), (t1, .inr (3, [.int (jz 1), .int (jn 1), .long (ja 1), .long (jb 1)])), (t2, .inr (3, [.int (jz 2), .int (jn 2), .long (ja 2), .long (jb 2)])), (t3, .inr (3, [.int x2, .int (x3.toInt32), .long (ja 3), .long (jb 3)]))] hP hD rfl
                  refine lv_iload_n hx hb dX12_hold_102 rfl (lv_at hl 4 rfl) ?_
                  refine lv_iconst (v := 2) hx hb dX12_hold_103 (by decide +kernel) ?_
                  refine lv_icmp_ne (tgt := 152) hx hb dX12_hold_104 (by decide +kernel) (fun c_185 => ?_) (fun c_185 => ?_)
                  · rw [fa_eq] at c_185
                    try rw [ti_2] at c_185
                    refine lv_iload hx hb dX12_hold_152 (lv_at hl 0 rfl) ?_
                    exact W.iret hx hb hr (fun t ht hW => ⟨⟨_, (f0, f1, (fun k => [(jz 0), (jz 1), (jz 2), x2].getD k 0), (fun k => [(jn 0), (jn 1), (jn 2), (x3.toInt32)].getD k 0), (fun k => [(ja 0), (ja 1), (ja 2), (ja 3)].getD k 0), (fun k => [(jb 0), (jb 1), (jb 2), (jb 3)].getD k 0)), rfl, (Or.inr ⟨⟨⟨by decide, by decide⟩, by omega, (fun h9 => by omega), (fun h9 => by omega)⟩, rfl, all4' ⟨(fun h9 => absurd h9 (by decide +kernel)), (fun _ => ⟨rfl, rfl⟩)⟩ ⟨(fun h9 => absurd h9 (by decide +kernel)), (fun _ => ⟨rfl, rfl⟩)⟩ ⟨(fun h9 => absurd h9 (by decide +kernel)), (fun _ => ⟨rfl, rfl⟩)⟩ ⟨(fun _ => ⟨rfl, (fun h9 => by first | rfl | (exfalso; omega))⟩), (fun h9 => absurd (by decide +kernel) h9)⟩⟩), by rw [ht]; exact hP.sub [0, 1, 2, 3, 4, 5, 6, 7, 8, 9] rfl, hD.sub [0, 1, 2, 3, 4, 5, 6, 7, 8, 9] (by decide +kernel) rfl⟩, hS.F ht⟩) hS.2.2 dX12_hold_154
                  · rw [fa_eq] at c_185
                    try rw [ti_2] at c_185
                    refine lv_aload_n hx hb dX12_hold_107 rfl (lv_at hl 2 rfl) ?_
                    refine va_get (D := D) (ci := 9) (v := .ref h2) (C := RX12) (T := TX12) (N := 11) hx hb hts in_X12_hold_X12 hown hE.1 hP 0 rfl rfl 6 (by decide +kernel) (hts (.fieldLink RX12 43 "ClauseBook" "worth" "LClauseBook$Worth;") (List.mem_of_getElem? (i := 7) rfl)) (fun _ h9 => h9) e0_6 dX12_hold_108 ?_
                    refine lv_sipush (v := 675) hx hb dX12_hold_111 (by decide +kernel) ?_
                    refine lv_lload_n hx hb dX12_hold_114 rfl (lv_at hl 5 rfl) ?_
                    refine lv_lload hx hb dX12_hold_115 (lv_at hl 6 rfl) ?_
                    have hFc := va_free (wc := [(h2, .inr (8, [v0, v1, .ref p0, .ref p1, v4, .int n])), (p0, .inl (T 1, 676, .inr (.inl f0))), (p1, .inl (T 1, 676, .inr (.inl f1)))]) hD hS hA [2, 3, 4] rfl
                    refine va_callv (va_runV (As := [.int 675, .long x3, .long x4]) (rest := []) ⟨hx, hb, hml, hown, hts⟩ (c_X11_reduce l D T _ h2 p0 p1 (v0) (v1) (v4) n f0 f1 675 x3 x4 (by first | decide | omega)) (cwV 3 hts gX12_hold_X11_reduce rfl rfl rfl hv_X11_reduce ⟨Nat.le_of_ble_eq_true rfl, Nat.le_of_ble_eq_true rfl⟩) (pW_V (q := (RX11, TX11, 6)) (ci := 8) (q0 := 2) hP hE hD rfl rfl [2, 3, 4] (by decide +kernel) rfl rfl) rfl rfl hl.1 rfl (lv_room (Nat.le_of_ble_eq_true rfl)) dX12_hold_117 ⟨Nat.le_of_ble_eq_true rfl, Nat.le_of_ble_eq_true rfl⟩) hS (fun q _ h => hFc q h) hFc (fun u_187 t H1 locs ht hvm hr_186 hB hz1 hk1 hS => ?_)
                    obtain ⟨f_188, f_189⟩ := u_187
                    obtain ⟨hP1, hD1⟩ := hB
                    rw [ht] at hP1
                    obtain ⟨hP, hD⟩ := va_repl [(h0, .inr (9, fs0)), (h1, .inr (1, fs1)), (h2, .inr (8, [v0, v1, .ref p0, .ref p1, v4, .int n])), (p0, .inl (T 1, 676, .inr (.inl f_188))), (p1, .inl (T 1, 676, .inr (.inl f_189))), (h3, .inl (T 7, 4, .inr (.inr (.inr (.inr (va_up (va_up (va_up (va_up (fun _ => none) 0 (some t0)) 1 (some t1)) 2 (some t2)) 3 (some t3))))))), (t0, .inr (3, [.int (jz 0), .int (jn 0), .long (ja 0), .long (jb 0)])), (t1, .inr (3, [.int (jz 1), .int (jn 1), .long (ja 1), .long (jb 1)])), (t2, .inr (3, [.int (jz 2), .int (jn 2), .long (ja 2), .long (jb 2)])), (t3, .inr (3, [.int x2, .int (x3.toInt32), .long (ja 3), .long (jb 3)]))] hP hD [2, 3, 4] [2, 3, 4] rfl (by decide +kernel) rfl rfl rfl hk1 hP1
                    clear hP1 hD1 hFc
                    generalize H1 = H at hP hS ⊢
                    refine lv_aload hx hb dX12_hold_120 (lv_at hl 1 rfl) ?_
                    refine lv_aload_n hx hb dX12_hold_122 rfl (lv_at hl 2 rfl) ?_
                    refine va_get (D := D) (ci := 9) (v := .ref h2) (C := RX12) (T := TX12) (N := 11) hx hb hts in_X12_hold_X12 hown hE.1 hP 0 rfl rfl 6 (by decide +kernel) (hts (.fieldLink RX12 43 "ClauseBook" "worth" "LClauseBook$Worth;") (List.mem_of_getElem? (i := 7) rfl)) (fun _ h9 => h9) e0_6 dX12_hold_123 ?_
                    refine va_get (D := D) (ci := 8) (v := .ref p0) (C := RX11) (T := TX11) (N := 6) hx hb hts in_X12_hold_X11 hown hE.1 hP 2 rfl rfl 2 (by decide +kernel) (hts (.fieldLink RX12 202 "ClauseBook$Worth" "above" "[J") (List.mem_of_getElem? (i := 8) rfl)) (fun _ h9 => h9) rfl dX12_hold_126 ?_
                    refine lv_sipush (v := 675) hx hb dX12_hold_129 (by decide +kernel) ?_
                    refine va_lald hx hb hE.1 hP 3 1 rfl rfl (by unfold vp_in; decide) dX12_hold_132 ?_
                    refine lv_topl (fun z_190 ez_190 => ?_)
                    refine va_put (D := D) (ci := 3) (v := .long z_190) (ty := .long) (C := RX4) (T := TX4) (N := 4) hx hb hts in_X12_hold_X4 tyX4 tyX4_ok nmX4 hown hE.1 hP hD hS 9 rfl rfl 2 (by decide +kernel) (hts (.fieldLink RX12 365 "ClauseBook$Hand" "above" "J") (List.mem_of_getElem? (i := 9) rfl)) (fun _ h9 => h9) rfl (by decide +kernel) rfl rfl (Nat.le_of_ble_eq_true rfl) dX12_hold_133 (fun H locs hP hD hS => ?_)
                    obtain ⟨hP, hD⟩ := wPD [(h0, .inr (9, fs0)), (h1, .inr (1, fs1)), (h2, .inr (8, [v0, v1, .ref p0, .ref p1, v4, .int n])), (p0, .inl (T 1, 676, .inr (.inl f_188))), (p1, .inl (T 1, 676, .inr (.inl f_189))), (h3, .inl (T 7, 4, .inr (.inr (.inr (.inr (va_up (va_up (va_up (va_up (fun _ => none) 0 (some t0)) 1 (some t1)) 2 (some t2)) 3 (some t3))))))), (t0, .inr (3, [.int (jz 0), .int (jn 0), .long (ja 0), .long (jb 0)])), (t1, .inr (3, [.int (jz 1), .int (jn 1), .long (ja 1), .long (jb 1)])), (t2, .inr (3, [.int (jz 2), .int (jn 2), .long (ja 2), .long (jb 2)])), (t3, .inr (3, [.int x2, .int (x3.toInt32), .long z_190, .long (jb 3)]))] hP hD rfl
                    refine lv_aload hx hb dX12_hold_136 (lv_at hl 1 rfl) ?_
                    refine lv_aload_n hx hb dX12_hold_138 rfl (lv_at hl 2 rfl) ?_
                    refine va_get (D := D) (ci := 9) (v := .ref h2) (C := RX12) (T := TX12) (N := 11) hx hb hts in_X12_hold_X12 hown hE.1 hP 0 rfl rfl 6 (by decide +kernel) (hts (.fieldLink RX12 43 "ClauseBook" "worth" "LClauseBook$Worth;") (List.mem_of_getElem? (i := 7) rfl)) (fun _ h9 => h9) e0_6 dX12_hold_139 ?_
                    refine va_get (D := D) (ci := 8) (v := .ref p1) (C := RX11) (T := TX11) (N := 6) hx hb hts in_X12_hold_X11 hown hE.1 hP 2 rfl rfl 3 (by decide +kernel) (hts (.fieldLink RX12 206 "ClauseBook$Worth" "below" "[J") (List.mem_of_getElem? (i := 10) rfl)) (fun _ h9 => h9) rfl dX12_hold_142 ?_
                    refine lv_sipush (v := 675) hx hb dX12_hold_145 (by decide +kernel) ?_
                    refine va_lald hx hb hE.1 hP 4 1 rfl rfl (by unfold vp_in; decide) dX12_hold_148 ?_
                    refine lv_topl (fun z_191 ez_191 => ?_)
                    refine va_put (D := D) (ci := 3) (v := .long z_191) (ty := .long) (C := RX4) (T := TX4) (N := 4) hx hb hts in_X12_hold_X4 tyX4 tyX4_ok nmX4 hown hE.1 hP hD hS 9 rfl rfl 3 (by decide +kernel) (hts (.fieldLink RX12 368 "ClauseBook$Hand" "below" "J") (List.mem_of_getElem? (i := 11) rfl)) (fun _ h9 => h9) rfl (by decide +kernel) rfl rfl (Nat.le_of_ble_eq_true rfl) dX12_hold_149 (fun H locs hP hD hS => ?_)
                    obtain ⟨hP, hD⟩ := wPD [(h0, .inr (9, fs0)), (h1, .inr (1, fs1)), (h2, .inr (8, [v0, v1, .ref p0, .ref p1, v4, .int n])), (p0, .inl (T 1, 676, .inr (.inl f_188))), (p1, .inl (T 1, 676, .inr (.inl f_189))), (h3, .inl (T 7, 4, .inr (.inr (.inr (.inr (va_up (va_up (va_up (va_up (fun _ => none) 0 (some t0)) 1 (some t1)) 2 (some t2)) 3 (some t3))))))), (t0, .inr (3, [.int (jz 0), .int (jn 0), .long (ja 0), .long (jb 0)])), (t1, .inr (3, [.int (jz 1), .int (jn 1), .long (ja 1), .long (jb 1)])), (t2, .inr (3, [.int (jz 2), .int (jn 2), .long (ja 2), .long (jb 2)])), (t3, .inr (3, [.int x2, .int (x3.toInt32), .long z_190, .long z_191]))] hP hD rfl
                    refine lv_iload hx hb dX12_hold_152 (lv_at hl 0 rfl) ?_
                    exact W.iret hx hb hr (fun t ht hW => ⟨⟨_, (f_188, f_189, (fun k => [(jz 0), (jz 1), (jz 2), x2].getD k 0), (fun k => [(jn 0), (jn 1), (jn 2), (x3.toInt32)].getD k 0), (fun k => [(ja 0), (ja 1), (ja 2), z_190].getD k 0), (fun k => [(jb 0), (jb 1), (jb 2), z_191].getD k 0)), rfl, (Or.inr ⟨⟨⟨by decide, by decide⟩, by omega, (fun h9 => by omega), (fun h9 => by omega)⟩, rfl, all4' ⟨(fun h9 => absurd h9 (by decide +kernel)), (fun _ => ⟨rfl, rfl⟩)⟩ ⟨(fun h9 => absurd h9 (by decide +kernel)), (fun _ => ⟨rfl, rfl⟩)⟩ ⟨(fun h9 => absurd h9 (by decide +kernel)), (fun _ => ⟨rfl, rfl⟩)⟩ ⟨(fun _ => ⟨rfl, (fun h9 => by first | rfl | (exfalso; omega))⟩), (fun h9 => absurd (by decide +kernel) h9)⟩⟩), by rw [ht]; exact hP.sub [0, 1, 2, 3, 4, 5, 6, 7, 8, 9] rfl, hD.sub [0, 1, 2, 3, 4, 5, 6, 7, 8, 9] (by decide +kernel) rfl⟩, hS.F ht⟩) hS.2.2 dX12_hold_154
            · rw [fa_eq] at c_131
              try rw [ti_2] at c_131
              refine lv_lload hx hb dX12_hold_51 (lv_at hl 4 rfl) ?_
              refine lv_lconst (v := 1) hx hb dX12_hold_53 (by decide +kernel) ?_
              refine W.lcmp hx hb dX12_hold_54 ?_
              refine lv_if_lt (tgt := 66) hx hb dX12_hold_55 (by decide +kernel) (fun c_192 => ?_) (fun c_192 => ?_)
              · rw [lcmp_lt] at c_192
                try rw [tl_1] at c_192
                refine lv_bipush (v := (-2)) hx hb dX12_hold_66 (by decide +kernel) ?_
                exact W.iret hx hb hr (fun t ht hW => ⟨⟨_, (f0, f1, (fun k => [(jz 0), (jz 1), (jz 2), (jz 3)].getD k 0), (fun k => [(jn 0), (jn 1), (jn 2), (jn 3)].getD k 0), (fun k => [(ja 0), (ja 1), (ja 2), (ja 3)].getD k 0), (fun k => [(jb 0), (jb 1), (jb 2), (jb 3)].getD k 0)), rfl, (Or.inl ⟨(fun h9 => by obtain ⟨h1, h2, h3, h4⟩ := h9; first | (clear h3 h4; omega) | (have h5 := h3 (by clear h3 h4; omega); clear h3 h4; omega) | (have h5 := h4 (by clear h3 h4; omega); clear h3 h4; omega)), (by decide +kernel), all4' ⟨rfl, rfl⟩ ⟨rfl, rfl⟩ ⟨rfl, rfl⟩ ⟨rfl, rfl⟩⟩), by rw [ht]; exact hP.sub [0, 1, 2, 3, 4, 5, 6, 7, 8, 9] rfl, hD.sub [0, 1, 2, 3, 4, 5, 6, 7, 8, 9] (by decide +kernel) rfl⟩, hS.F ht⟩) hS.2.2 dX12_hold_68
              · rw [lcmp_lt] at c_192
                try rw [tl_1] at c_192
                refine lv_lload_n hx hb dX12_hold_58 rfl (lv_at hl 3 rfl) ?_
                refine lv_ldc2 (v := (-9223372036854775808)) hx hb hown (hts (.constantLong RX12 357 (-9223372036854775808)) (List.mem_of_getElem? (i := 3) rfl)) dX12_hold_59 ?_
                refine W.lcmp hx hb dX12_hold_62 ?_
                refine lv_if_ne (tgt := 69) hx hb dX12_hold_63 (by decide +kernel) (fun c_193 => ?_) (fun c_193 => ?_)
                · rw [lcmp_eq] at c_193
                  try rw [tl_min] at c_193
                  refine lv_aload_n hx hb dX12_hold_69 rfl (lv_at hl 0 rfl) ?_
                  refine va_get (D := D) (ci := 9) (v := .ref h3) (C := RX12) (T := TX12) (N := 11) hx hb hts in_X12_hold_X12 hown hE.1 hP 0 rfl rfl 10 (by decide +kernel) (hts (.fieldLink RX12 71 "ClauseBook" "hands" "[LClauseBook$Hand;") (List.mem_of_getElem? (i := 4) rfl)) (fun _ h9 => h9) e0_10 dX12_hold_70 ?_
                  refine lv_iload_n hx hb dX12_hold_73 rfl (lv_at hl 1 rfl) ?_
                  rcases in4 (x := x1) (by omega) with rfl | rfl | rfl | rfl
                  · refine va_aldq hx hb hE.1 hP 5 7 rfl rfl (by unfold vp_in; decide) dX12_hold_74 ?_
                    refine W.eq (g2 := F0 m 75 ls [.ref t0]) rfl ?_
                    refine lv_astore (lv' := [(7, .ref t0), (0, .ref h0), (1, .int 0), (2, .int x2), (3, .long x3), (5, .long x4)]) hx hb dX12_hold_75 hl (by decide +kernel) rfl (fun ls hl => ?_)
                    refine lv_aload hx hb dX12_hold_77 (lv_at hl 0 rfl) ?_
                    refine va_get (D := D) (ci := 3) (v := .int (jz 0)) (C := RX4) (T := TX4) (N := 4) hx hb hts in_X12_hold_X4 hown hE.1 hP 6 rfl rfl 0 (by decide +kernel) (hts (.fieldLink RX12 359 "ClauseBook$Hand" "sort" "I") (List.mem_of_getElem? (i := 5) rfl)) (fun _ h9 => h9) rfl dX12_hold_79 ?_
                    refine lv_istore (lv' := [(8, .int (jz 0)), (7, .ref t0), (0, .ref h0), (1, .int 0), (2, .int x2), (3, .long x3), (5, .long x4)]) hx hb dX12_hold_82 hl (by decide +kernel) rfl (fun ls hl => ?_)
                    refine lv_aload hx hb dX12_hold_84 (lv_at hl 1 rfl) ?_
                    refine lv_iload_n hx hb dX12_hold_86 rfl (lv_at hl 4 rfl) ?_
                    refine va_put (D := D) (ci := 3) (v := .int x2) (ty := .int) (C := RX4) (T := TX4) (N := 4) hx hb hts in_X12_hold_X4 tyX4 tyX4_ok nmX4 hown hE.1 hP hD hS 6 rfl rfl 0 (by decide +kernel) (hts (.fieldLink RX12 359 "ClauseBook$Hand" "sort" "I") (List.mem_of_getElem? (i := 5) rfl)) (fun _ h9 => h9) rfl (by decide +kernel) rfl rfl (Nat.le_of_ble_eq_true rfl) dX12_hold_87 (fun H locs hP hD hS => ?_)
                    obtain ⟨hP, hD⟩ := wPD [(h0, .inr (9, fs0)), (h1, .inr (1, fs1)), (h2, .inr (8, [v0, v1, .ref p0, .ref p1, v4, .int n])), (p0, .inl (T 1, 676, .inr (.inl f0))), (p1, .inl (T 1, 676, .inr (.inl f1))), (h3, .inl (T 7, 4, .inr (.inr (.inr (.inr (va_up (va_up (va_up (va_up (fun _ => none) 0 (some t0)) 1 (some t1)) 2 (some t2)) 3 (some t3))))))), (t0, .inr (3, [.int x2, .int (jn 0), .long (ja 0), .long (jb 0)])), (t1, .inr (3, [.int (jz 1), .int (jn 1), .long (ja 1), .long (jb 1)])), (t2, .inr (3, [.int (jz 2), .int (jn 2), .long (ja 2), .long (jb 2)])), (t3, .inr (3, [.int (jz 3), .int (jn 3), .long (ja 3), .long (jb 3)]))] hP hD rfl
                    refine lv_iload_n hx hb dX12_hold_90 rfl (lv_at hl 4 rfl) ?_
                    refine lv_iconst (v := 1) hx hb dX12_hold_91 (by decide +kernel) ?_
                    refine lv_icmp_ne (tgt := 102) hx hb dX12_hold_92 (by decide +kernel) (fun c_194 => ?_) (fun c_194 => ?_)
                    · rw [fa_eq] at c_194
                      try rw [ti_1] at c_194
                      refine lv_iload_n hx hb dX12_hold_102 rfl (lv_at hl 4 rfl) ?_
                      refine lv_iconst (v := 2) hx hb dX12_hold_103 (by decide +kernel) ?_
                      refine lv_icmp_ne (tgt := 152) hx hb dX12_hold_104 (by decide +kernel) (fun c_195 => ?_) (fun c_195 => ?_)
                      · rw [fa_eq] at c_195
                        try rw [ti_2] at c_195
                        refine lv_iload hx hb dX12_hold_152 (lv_at hl 0 rfl) ?_
                        exact W.iret hx hb hr (fun t ht hW => ⟨⟨_, (f0, f1, (fun k => [x2, (jz 1), (jz 2), (jz 3)].getD k 0), (fun k => [(jn 0), (jn 1), (jn 2), (jn 3)].getD k 0), (fun k => [(ja 0), (ja 1), (ja 2), (ja 3)].getD k 0), (fun k => [(jb 0), (jb 1), (jb 2), (jb 3)].getD k 0)), rfl, (Or.inr ⟨⟨⟨by decide, by decide⟩, by omega, (fun h9 => by omega), (fun h9 => by omega)⟩, rfl, all4' ⟨(fun _ => ⟨rfl, (fun h9 => by first | rfl | (exfalso; omega))⟩), (fun h9 => absurd (by decide +kernel) h9)⟩ ⟨(fun h9 => absurd h9 (by decide +kernel)), (fun _ => ⟨rfl, rfl⟩)⟩ ⟨(fun h9 => absurd h9 (by decide +kernel)), (fun _ => ⟨rfl, rfl⟩)⟩ ⟨(fun h9 => absurd h9 (by decide +kernel)), (fun _ => ⟨rfl, rfl⟩)⟩⟩), by rw [ht]; exact hP.sub [0, 1, 2, 3, 4, 5, 6, 7, 8, 9] rfl, hD.sub [0, 1, 2, 3, 4, 5, 6, 7, 8, 9] (by decide +kernel) rfl⟩, hS.F ht⟩) hS.2.2 dX12_hold_154
                      · rw [fa_eq] at c_195
                        try rw [ti_2] at c_195
                        refine lv_aload_n hx hb dX12_hold_107 rfl (lv_at hl 2 rfl) ?_
                        refine va_get (D := D) (ci := 9) (v := .ref h2) (C := RX12) (T := TX12) (N := 11) hx hb hts in_X12_hold_X12 hown hE.1 hP 0 rfl rfl 6 (by decide +kernel) (hts (.fieldLink RX12 43 "ClauseBook" "worth" "LClauseBook$Worth;") (List.mem_of_getElem? (i := 7) rfl)) (fun _ h9 => h9) e0_6 dX12_hold_108 ?_
                        refine lv_sipush (v := 675) hx hb dX12_hold_111 (by decide +kernel) ?_
                        refine lv_lload_n hx hb dX12_hold_114 rfl (lv_at hl 5 rfl) ?_
                        refine lv_lload hx hb dX12_hold_115 (lv_at hl 6 rfl) ?_
                        have hFc := va_free (wc := [(h2, .inr (8, [v0, v1, .ref p0, .ref p1, v4, .int n])), (p0, .inl (T 1, 676, .inr (.inl f0))), (p1, .inl (T 1, 676, .inr (.inl f1)))]) hD hS hA [2, 3, 4] rfl
                        refine va_callv (va_runV (As := [.int 675, .long x3, .long x4]) (rest := []) ⟨hx, hb, hml, hown, hts⟩ (c_X11_reduce l D T _ h2 p0 p1 (v0) (v1) (v4) n f0 f1 675 x3 x4 (by first | decide | omega)) (cwV 3 hts gX12_hold_X11_reduce rfl rfl rfl hv_X11_reduce ⟨Nat.le_of_ble_eq_true rfl, Nat.le_of_ble_eq_true rfl⟩) (pW_V (q := (RX11, TX11, 6)) (ci := 8) (q0 := 2) hP hE hD rfl rfl [2, 3, 4] (by decide +kernel) rfl rfl) rfl rfl hl.1 rfl (lv_room (Nat.le_of_ble_eq_true rfl)) dX12_hold_117 ⟨Nat.le_of_ble_eq_true rfl, Nat.le_of_ble_eq_true rfl⟩) hS (fun q _ h => hFc q h) hFc (fun u_197 t H1 locs ht hvm hr_196 hB hz1 hk1 hS => ?_)
                        obtain ⟨f_198, f_199⟩ := u_197
                        obtain ⟨hP1, hD1⟩ := hB
                        rw [ht] at hP1
                        obtain ⟨hP, hD⟩ := va_repl [(h0, .inr (9, fs0)), (h1, .inr (1, fs1)), (h2, .inr (8, [v0, v1, .ref p0, .ref p1, v4, .int n])), (p0, .inl (T 1, 676, .inr (.inl f_198))), (p1, .inl (T 1, 676, .inr (.inl f_199))), (h3, .inl (T 7, 4, .inr (.inr (.inr (.inr (va_up (va_up (va_up (va_up (fun _ => none) 0 (some t0)) 1 (some t1)) 2 (some t2)) 3 (some t3))))))), (t0, .inr (3, [.int x2, .int (jn 0), .long (ja 0), .long (jb 0)])), (t1, .inr (3, [.int (jz 1), .int (jn 1), .long (ja 1), .long (jb 1)])), (t2, .inr (3, [.int (jz 2), .int (jn 2), .long (ja 2), .long (jb 2)])), (t3, .inr (3, [.int (jz 3), .int (jn 3), .long (ja 3), .long (jb 3)]))] hP hD [2, 3, 4] [2, 3, 4] rfl (by decide +kernel) rfl rfl rfl hk1 hP1
                        clear hP1 hD1 hFc
                        generalize H1 = H at hP hS ⊢
                        refine lv_aload hx hb dX12_hold_120 (lv_at hl 1 rfl) ?_
                        refine lv_aload_n hx hb dX12_hold_122 rfl (lv_at hl 2 rfl) ?_
                        refine va_get (D := D) (ci := 9) (v := .ref h2) (C := RX12) (T := TX12) (N := 11) hx hb hts in_X12_hold_X12 hown hE.1 hP 0 rfl rfl 6 (by decide +kernel) (hts (.fieldLink RX12 43 "ClauseBook" "worth" "LClauseBook$Worth;") (List.mem_of_getElem? (i := 7) rfl)) (fun _ h9 => h9) e0_6 dX12_hold_123 ?_
                        refine va_get (D := D) (ci := 8) (v := .ref p0) (C := RX11) (T := TX11) (N := 6) hx hb hts in_X12_hold_X11 hown hE.1 hP 2 rfl rfl 2 (by decide +kernel) (hts (.fieldLink RX12 202 "ClauseBook$Worth" "above" "[J") (List.mem_of_getElem? (i := 8) rfl)) (fun _ h9 => h9) rfl dX12_hold_126 ?_
                        refine lv_sipush (v := 675) hx hb dX12_hold_129 (by decide +kernel) ?_
                        refine va_lald hx hb hE.1 hP 3 1 rfl rfl (by unfold vp_in; decide) dX12_hold_132 ?_
                        refine lv_topl (fun z_200 ez_200 => ?_)
                        refine va_put (D := D) (ci := 3) (v := .long z_200) (ty := .long) (C := RX4) (T := TX4) (N := 4) hx hb hts in_X12_hold_X4 tyX4 tyX4_ok nmX4 hown hE.1 hP hD hS 6 rfl rfl 2 (by decide +kernel) (hts (.fieldLink RX12 365 "ClauseBook$Hand" "above" "J") (List.mem_of_getElem? (i := 9) rfl)) (fun _ h9 => h9) rfl (by decide +kernel) rfl rfl (Nat.le_of_ble_eq_true rfl) dX12_hold_133 (fun H locs hP hD hS => ?_)
                        obtain ⟨hP, hD⟩ := wPD [(h0, .inr (9, fs0)), (h1, .inr (1, fs1)), (h2, .inr (8, [v0, v1, .ref p0, .ref p1, v4, .int n])), (p0, .inl (T 1, 676, .inr (.inl f_198))), (p1, .inl (T 1, 676, .inr (.inl f_199))), (h3, .inl (T 7, 4, .inr (.inr (.inr (.inr (va_up (va_up (va_up (va_up (fun _ => none) 0 (some t0)) 1 (some t1)) 2 (some t2)) 3 (some t3))))))), (t0, .inr (3, [.int x2, .int (jn 0), .long z_200, .long (jb 0)])), (t1, .inr (3, [.int (jz 1), .int (jn 1), .long (ja 1), .long (jb 1)])), (t2, .inr (3, [.int (jz 2), .int (jn 2), .long (ja 2), .long (jb 2)])), (t3, .inr (3, [.int (jz 3), .int (jn 3), .long (ja 3), .long (jb 3)]))] hP hD rfl
                        refine lv_aload hx hb dX12_hold_136 (lv_at hl 1 rfl) ?_
                        refine lv_aload_n hx hb dX12_hold_138 rfl (lv_at hl 2 rfl) ?_
                        refine va_get (D := D) (ci := 9) (v := .ref h2) (C := RX12) (T := TX12) (N := 11) hx hb hts in_X12_hold_X12 hown hE.1 hP 0 rfl rfl 6 (by decide +kernel) (hts (.fieldLink RX12 43 "ClauseBook" "worth" "LClauseBook$Worth;") (List.mem_of_getElem? (i := 7) rfl)) (fun _ h9 => h9) e0_6 dX12_hold_139 ?_
                        refine va_get (D := D) (ci := 8) (v := .ref p1) (C := RX11) (T := TX11) (N := 6) hx hb hts in_X12_hold_X11 hown hE.1 hP 2 rfl rfl 3 (by decide +kernel) (hts (.fieldLink RX12 206 "ClauseBook$Worth" "below" "[J") (List.mem_of_getElem? (i := 10) rfl)) (fun _ h9 => h9) rfl dX12_hold_142 ?_
                        refine lv_sipush (v := 675) hx hb dX12_hold_145 (by decide +kernel) ?_
                        refine va_lald hx hb hE.1 hP 4 1 rfl rfl (by unfold vp_in; decide) dX12_hold_148 ?_
                        refine lv_topl (fun z_201 ez_201 => ?_)
                        refine va_put (D := D) (ci := 3) (v := .long z_201) (ty := .long) (C := RX4) (T := TX4) (N := 4) hx hb hts in_X12_hold_X4 tyX4 tyX4_ok nmX4 hown hE.1 hP hD hS 6 rfl rfl 3 (by decide +kernel) (hts (.fieldLink RX12 368 "ClauseBook$Hand" "below" "J") (List.mem_of_getElem? (i := 11) rfl)) (fun _ h9 => h9) rfl (by decide +kernel) rfl rfl (Nat.le_of_ble_eq_true rfl) dX12_hold_149 (fun H locs hP hD hS => ?_)
                        obtain ⟨hP, hD⟩ := wPD [(h0, .inr (9, fs0)), (h1, .inr (1, fs1)), (h2, .inr (8, [v0, v1, .ref p0, .ref p1, v4, .int n])), (p0, .inl (T 1, 676, .inr (.inl f_198))), (p1, .inl (T 1, 676, .inr (.inl f_199))), (h3, .inl (T 7, 4, .inr (.inr (.inr (.inr (va_up (va_up (va_up (va_up (fun _ => none) 0 (some t0)) 1 (some t1)) 2 (some t2)) 3 (some t3))))))), (t0, .inr (3, [.int x2, .int (jn 0), .long z_200, .long z_201])), (t1, .inr (3, [.int (jz 1), .int (jn 1), .long (ja 1), .long (jb 1)])), (t2, .inr (3, [.int (jz 2), .int (jn 2), .long (ja 2), .long (jb 2)])), (t3, .inr (3, [.int (jz 3), .int (jn 3), .long (ja 3), .long (jb 3)]))] hP hD rfl
                        refine lv_iload hx hb dX12_hold_152 (lv_at hl 0 rfl) ?_
                        exact W.iret hx hb hr (fun t ht hW => ⟨⟨_, (f_198, f_199, (fun k => [x2, (jz 1), (jz 2), (jz 3)].getD k 0), (fun k => [(jn 0), (jn 1), (jn 2), (jn 3)].getD k 0), (fun k => [z_200, (ja 1), (ja 2), (ja 3)].getD k 0), (fun k => [z_201, (jb 1), (jb 2), (jb 3)].getD k 0)), rfl, (Or.inr ⟨⟨⟨by decide, by decide⟩, by omega, (fun h9 => by omega), (fun h9 => by omega)⟩, rfl, all4' ⟨(fun _ => ⟨rfl, (fun h9 => by first | rfl | (exfalso; omega))⟩), (fun h9 => absurd (by decide +kernel) h9)⟩ ⟨(fun h9 => absurd h9 (by decide +kernel)), (fun _ => ⟨rfl, rfl⟩)⟩ ⟨(fun h9 => absurd h9 (by decide +kernel)), (fun _ => ⟨rfl, rfl⟩)⟩ ⟨(fun h9 => absurd h9 (by decide +kernel)), (fun _ => ⟨rfl, rfl⟩)⟩⟩), by rw [ht]; exact hP.sub [0, 1, 2, 3, 4, 5, 6, 7, 8, 9] rfl, hD.sub [0, 1, 2, 3, 4, 5, 6, 7, 8, 9] (by decide +kernel) rfl⟩, hS.F ht⟩) hS.2.2 dX12_hold_154
                    · rw [fa_eq] at c_194
                      try rw [ti_1] at c_194
                      refine lv_aload hx hb dX12_hold_95 (lv_at hl 1 rfl) ?_
                      refine lv_lload_n hx hb dX12_hold_97 rfl (lv_at hl 5 rfl) ?_
                      refine lv_l2i hx hb dX12_hold_98 rfl ?_
                      refine va_put (D := D) (ci := 3) (v := .int (x3.toInt32)) (ty := .int) (C := RX4) (T := TX4) (N := 4) hx hb hts in_X12_hold_X4 tyX4 tyX4_ok nmX4 hown hE.1 hP hD hS 6 rfl rfl 1 (by decide +kernel) (hts (.fieldLink RX12 360 "ClauseBook$Hand" "number" "I") (List.mem_of_getElem? (i := 6) rfl)) (fun _ h9 => h9) rfl (by decide +kernel) rfl rfl (Nat.le_of_ble_eq_true rfl) dX12_hold_99 (fun H locs hP hD hS => ?_)
                      obtain ⟨hP, hD⟩ := wPD [(h0, .inr (9, fs0)), (h1, .inr (1, fs1)), (h2, .inr (8, [v0, v1, .ref p0, .ref p1, v4, .int n])), (p0, .inl (T 1, 676, .inr (.inl f0))), (p1, .inl (T 1, 676, .inr (.inl f1))), (h3, .inl (T 7, 4, .inr (.inr (.inr (.inr (va_up (va_up (va_up (va_up (fun _ => none) 0 (some t0)) 1 (some t1)) 2 (some t2)) 3 (some t3))))))), (t0, .inr (3, [.int x2, .int (x3.toInt32), .long (ja 0), .long (jb 0)])), (t1, .inr (3, [.int (jz 1), .int (jn 1), .long (ja 1), .long (jb 1)])), (t2, .inr (3, [.int (jz 2), .int (jn 2), .long (ja 2), .long (jb 2)])), (t3, .inr (3, [.int (jz 3), .int (jn 3), .long (ja 3), .long (jb 3)]))] hP hD rfl
                      refine lv_iload_n hx hb dX12_hold_102 rfl (lv_at hl 4 rfl) ?_
                      refine lv_iconst (v := 2) hx hb dX12_hold_103 (by decide +kernel) ?_
                      refine lv_icmp_ne (tgt := 152) hx hb dX12_hold_104 (by decide +kernel) (fun c_202 => ?_) (fun c_202 => ?_)
                      · rw [fa_eq] at c_202
                        try rw [ti_2] at c_202
                        refine lv_iload hx hb dX12_hold_152 (lv_at hl 0 rfl) ?_
                        exact W.iret hx hb hr (fun t ht hW => ⟨⟨_, (f0, f1, (fun k => [x2, (jz 1), (jz 2), (jz 3)].getD k 0), (fun k => [(x3.toInt32), (jn 1), (jn 2), (jn 3)].getD k 0), (fun k => [(ja 0), (ja 1), (ja 2), (ja 3)].getD k 0), (fun k => [(jb 0), (jb 1), (jb 2), (jb 3)].getD k 0)), rfl, (Or.inr ⟨⟨⟨by decide, by decide⟩, by omega, (fun h9 => by omega), (fun h9 => by omega)⟩, rfl, all4' ⟨(fun _ => ⟨rfl, (fun h9 => by first | rfl | (exfalso; omega))⟩), (fun h9 => absurd (by decide +kernel) h9)⟩ ⟨(fun h9 => absurd h9 (by decide +kernel)), (fun _ => ⟨rfl, rfl⟩)⟩ ⟨(fun h9 => absurd h9 (by decide +kernel)), (fun _ => ⟨rfl, rfl⟩)⟩ ⟨(fun h9 => absurd h9 (by decide +kernel)), (fun _ => ⟨rfl, rfl⟩)⟩⟩), by rw [ht]; exact hP.sub [0, 1, 2, 3, 4, 5, 6, 7, 8, 9] rfl, hD.sub [0, 1, 2, 3, 4, 5, 6, 7, 8, 9] (by decide +kernel) rfl⟩, hS.F ht⟩) hS.2.2 dX12_hold_154
                      · rw [fa_eq] at c_202
                        try rw [ti_2] at c_202
                        refine lv_aload_n hx hb dX12_hold_107 rfl (lv_at hl 2 rfl) ?_
                        refine va_get (D := D) (ci := 9) (v := .ref h2) (C := RX12) (T := TX12) (N := 11) hx hb hts in_X12_hold_X12 hown hE.1 hP 0 rfl rfl 6 (by decide +kernel) (hts (.fieldLink RX12 43 "ClauseBook" "worth" "LClauseBook$Worth;") (List.mem_of_getElem? (i := 7) rfl)) (fun _ h9 => h9) e0_6 dX12_hold_108 ?_
                        refine lv_sipush (v := 675) hx hb dX12_hold_111 (by decide +kernel) ?_
                        refine lv_lload_n hx hb dX12_hold_114 rfl (lv_at hl 5 rfl) ?_
                        refine lv_lload hx hb dX12_hold_115 (lv_at hl 6 rfl) ?_
                        have hFc := va_free (wc := [(h2, .inr (8, [v0, v1, .ref p0, .ref p1, v4, .int n])), (p0, .inl (T 1, 676, .inr (.inl f0))), (p1, .inl (T 1, 676, .inr (.inl f1)))]) hD hS hA [2, 3, 4] rfl
                        refine va_callv (va_runV (As := [.int 675, .long x3, .long x4]) (rest := []) ⟨hx, hb, hml, hown, hts⟩ (c_X11_reduce l D T _ h2 p0 p1 (v0) (v1) (v4) n f0 f1 675 x3 x4 (by first | decide | omega)) (cwV 3 hts gX12_hold_X11_reduce rfl rfl rfl hv_X11_reduce ⟨Nat.le_of_ble_eq_true rfl, Nat.le_of_ble_eq_true rfl⟩) (pW_V (q := (RX11, TX11, 6)) (ci := 8) (q0 := 2) hP hE hD rfl rfl [2, 3, 4] (by decide +kernel) rfl rfl) rfl rfl hl.1 rfl (lv_room (Nat.le_of_ble_eq_true rfl)) dX12_hold_117 ⟨Nat.le_of_ble_eq_true rfl, Nat.le_of_ble_eq_true rfl⟩) hS (fun q _ h => hFc q h) hFc (fun u_204 t H1 locs ht hvm hr_203 hB hz1 hk1 hS => ?_)
                        obtain ⟨f_205, f_206⟩ := u_204
                        obtain ⟨hP1, hD1⟩ := hB
                        rw [ht] at hP1
                        obtain ⟨hP, hD⟩ := va_repl [(h0, .inr (9, fs0)), (h1, .inr (1, fs1)), (h2, .inr (8, [v0, v1, .ref p0, .ref p1, v4, .int n])), (p0, .inl (T 1, 676, .inr (.inl f_205))), (p1, .inl (T 1, 676, .inr (.inl f_206))), (h3, .inl (T 7, 4, .inr (.inr (.inr (.inr (va_up (va_up (va_up (va_up (fun _ => none) 0 (some t0)) 1 (some t1)) 2 (some t2)) 3 (some t3))))))), (t0, .inr (3, [.int x2, .int (x3.toInt32), .long (ja 0), .long (jb 0)])), (t1, .inr (3, [.int (jz 1), .int (jn 1), .long (ja 1), .long (jb 1)])), (t2, .inr (3, [.int (jz 2), .int (jn 2), .long (ja 2), .long (jb 2)])), (t3, .inr (3, [.int (jz 3), .int (jn 3), .long (ja 3), .long (jb 3)]))] hP hD [2, 3, 4] [2, 3, 4] rfl (by decide +kernel) rfl rfl rfl hk1 hP1
                        clear hP1 hD1 hFc
                        generalize H1 = H at hP hS ⊢
                        refine lv_aload hx hb dX12_hold_120 (lv_at hl 1 rfl) ?_
                        refine lv_aload_n hx hb dX12_hold_122 rfl (lv_at hl 2 rfl) ?_
                        refine va_get (D := D) (ci := 9) (v := .ref h2) (C := RX12) (T := TX12) (N := 11) hx hb hts in_X12_hold_X12 hown hE.1 hP 0 rfl rfl 6 (by decide +kernel) (hts (.fieldLink RX12 43 "ClauseBook" "worth" "LClauseBook$Worth;") (List.mem_of_getElem? (i := 7) rfl)) (fun _ h9 => h9) e0_6 dX12_hold_123 ?_
                        refine va_get (D := D) (ci := 8) (v := .ref p0) (C := RX11) (T := TX11) (N := 6) hx hb hts in_X12_hold_X11 hown hE.1 hP 2 rfl rfl 2 (by decide +kernel) (hts (.fieldLink RX12 202 "ClauseBook$Worth" "above" "[J") (List.mem_of_getElem? (i := 8) rfl)) (fun _ h9 => h9) rfl dX12_hold_126 ?_
                        refine lv_sipush (v := 675) hx hb dX12_hold_129 (by decide +kernel) ?_
                        refine va_lald hx hb hE.1 hP 3 1 rfl rfl (by unfold vp_in; decide) dX12_hold_132 ?_
                        refine lv_topl (fun z_207 ez_207 => ?_)
                        refine va_put (D := D) (ci := 3) (v := .long z_207) (ty := .long) (C := RX4) (T := TX4) (N := 4) hx hb hts in_X12_hold_X4 tyX4 tyX4_ok nmX4 hown hE.1 hP hD hS 6 rfl rfl 2 (by decide +kernel) (hts (.fieldLink RX12 365 "ClauseBook$Hand" "above" "J") (List.mem_of_getElem? (i := 9) rfl)) (fun _ h9 => h9) rfl (by decide +kernel) rfl rfl (Nat.le_of_ble_eq_true rfl) dX12_hold_133 (fun H locs hP hD hS => ?_)
                        obtain ⟨hP, hD⟩ := wPD [(h0, .inr (9, fs0)), (h1, .inr (1, fs1)), (h2, .inr (8, [v0, v1, .ref p0, .ref p1, v4, .int n])), (p0, .inl (T 1, 676, .inr (.inl f_205))), (p1, .inl (T 1, 676, .inr (.inl f_206))), (h3, .inl (T 7, 4, .inr (.inr (.inr (.inr (va_up (va_up (va_up (va_up (fun _ => none) 0 (some t0)) 1 (some t1)) 2 (some t2)) 3 (some t3))))))), (t0, .inr (3, [.int x2, .int (x3.toInt32), .long z_207, .long (jb 0)])), (t1, .inr (3, [.int (jz 1), .int (jn 1), .long (ja 1), .long (jb 1)])), (t2, .inr (3, [.int (jz 2), .int (jn 2), .long (ja 2), .long (jb 2)])), (t3, .inr (3, [.int (jz 3), .int (jn 3), .long (ja 3), .long (jb 3)]))] hP hD rfl
                        refine lv_aload hx hb dX12_hold_136 (lv_at hl 1 rfl) ?_
                        refine lv_aload_n hx hb dX12_hold_138 rfl (lv_at hl 2 rfl) ?_
                        refine va_get (D := D) (ci := 9) (v := .ref h2) (C := RX12) (T := TX12) (N := 11) hx hb hts in_X12_hold_X12 hown hE.1 hP 0 rfl rfl 6 (by decide +kernel) (hts (.fieldLink RX12 43 "ClauseBook" "worth" "LClauseBook$Worth;") (List.mem_of_getElem? (i := 7) rfl)) (fun _ h9 => h9) e0_6 dX12_hold_139 ?_
                        refine va_get (D := D) (ci := 8) (v := .ref p1) (C := RX11) (T := TX11) (N := 6) hx hb hts in_X12_hold_X11 hown hE.1 hP 2 rfl rfl 3 (by decide +kernel) (hts (.fieldLink RX12 206 "ClauseBook$Worth" "below" "[J") (List.mem_of_getElem? (i := 10) rfl)) (fun _ h9 => h9) rfl dX12_hold_142 ?_
                        refine lv_sipush (v := 675) hx hb dX12_hold_145 (by decide +kernel) ?_
                        refine va_lald hx hb hE.1 hP 4 1 rfl rfl (by unfold vp_in; decide) dX12_hold_148 ?_
                        refine lv_topl (fun z_208 ez_208 => ?_)
                        refine va_put (D := D) (ci := 3) (v := .long z_208) (ty := .long) (C := RX4) (T := TX4) (N := 4) hx hb hts in_X12_hold_X4 tyX4 tyX4_ok nmX4 hown hE.1 hP hD hS 6 rfl rfl 3 (by decide +kernel) (hts (.fieldLink RX12 368 "ClauseBook$Hand" "below" "J") (List.mem_of_getElem? (i := 11) rfl)) (fun _ h9 => h9) rfl (by decide +kernel) rfl rfl (Nat.le_of_ble_eq_true rfl) dX12_hold_149 (fun H locs hP hD hS => ?_)
                        obtain ⟨hP, hD⟩ := wPD [(h0, .inr (9, fs0)), (h1, .inr (1, fs1)), (h2, .inr (8, [v0, v1, .ref p0, .ref p1, v4, .int n])), (p0, .inl (T 1, 676, .inr (.inl f_205))), (p1, .inl (T 1, 676, .inr (.inl f_206))), (h3, .inl (T 7, 4, .inr (.inr (.inr (.inr (va_up (va_up (va_up (va_up (fun _ => none) 0 (some t0)) 1 (some t1)) 2 (some t2)) 3 (some t3))))))), (t0, .inr (3, [.int x2, .int (x3.toInt32), .long z_207, .long z_208])), (t1, .inr (3, [.int (jz 1), .int (jn 1), .long (ja 1), .long (jb 1)])), (t2, .inr (3, [.int (jz 2), .int (jn 2), .long (ja 2), .long (jb 2)])), (t3, .inr (3, [.int (jz 3), .int (jn 3), .long (ja 3), .long (jb 3)]))] hP hD rfl
                        refine lv_iload hx hb dX12_hold_152 (lv_at hl 0 rfl) ?_
                        exact W.iret hx hb hr (fun t ht hW => ⟨⟨_, (f_205, f_206, (fun k => [x2, (jz 1), (jz 2), (jz 3)].getD k 0), (fun k => [(x3.toInt32), (jn 1), (jn 2), (jn 3)].getD k 0), (fun k => [z_207, (ja 1), (ja 2), (ja 3)].getD k 0), (fun k => [z_208, (jb 1), (jb 2), (jb 3)].getD k 0)), rfl, (Or.inr ⟨⟨⟨by decide, by decide⟩, by omega, (fun h9 => by omega), (fun h9 => by omega)⟩, rfl, all4' ⟨(fun _ => ⟨rfl, (fun h9 => by first | rfl | (exfalso; omega))⟩), (fun h9 => absurd (by decide +kernel) h9)⟩ ⟨(fun h9 => absurd h9 (by decide +kernel)), (fun _ => ⟨rfl, rfl⟩)⟩ ⟨(fun h9 => absurd h9 (by decide +kernel)), (fun _ => ⟨rfl, rfl⟩)⟩ ⟨(fun h9 => absurd h9 (by decide +kernel)), (fun _ => ⟨rfl, rfl⟩)⟩⟩), by rw [ht]; exact hP.sub [0, 1, 2, 3, 4, 5, 6, 7, 8, 9] rfl, hD.sub [0, 1, 2, 3, 4, 5, 6, 7, 8, 9] (by decide +kernel) rfl⟩, hS.F ht⟩) hS.2.2 dX12_hold_154
                  · refine va_aldq hx hb hE.1 hP 5 7 rfl rfl (by unfold vp_in; decide) dX12_hold_74 ?_
                    refine W.eq (g2 := F0 m 75 ls [.ref t1]) rfl ?_
                    refine lv_astore (lv' := [(7, .ref t1), (0, .ref h0), (1, .int 1), (2, .int x2), (3, .long x3), (5, .long x4)]) hx hb dX12_hold_75 hl (by decide +kernel) rfl (fun ls hl => ?_)
                    refine lv_aload hx hb dX12_hold_77 (lv_at hl 0 rfl) ?_
                    refine va_get (D := D) (ci := 3) (v := .int (jz 1)) (C := RX4) (T := TX4) (N := 4) hx hb hts in_X12_hold_X4 hown hE.1 hP 7 rfl rfl 0 (by decide +kernel) (hts (.fieldLink RX12 359 "ClauseBook$Hand" "sort" "I") (List.mem_of_getElem? (i := 5) rfl)) (fun _ h9 => h9) rfl dX12_hold_79 ?_
                    refine lv_istore (lv' := [(8, .int (jz 1)), (7, .ref t1), (0, .ref h0), (1, .int 1), (2, .int x2), (3, .long x3), (5, .long x4)]) hx hb dX12_hold_82 hl (by decide +kernel) rfl (fun ls hl => ?_)
                    refine lv_aload hx hb dX12_hold_84 (lv_at hl 1 rfl) ?_
                    refine lv_iload_n hx hb dX12_hold_86 rfl (lv_at hl 4 rfl) ?_
                    refine va_put (D := D) (ci := 3) (v := .int x2) (ty := .int) (C := RX4) (T := TX4) (N := 4) hx hb hts in_X12_hold_X4 tyX4 tyX4_ok nmX4 hown hE.1 hP hD hS 7 rfl rfl 0 (by decide +kernel) (hts (.fieldLink RX12 359 "ClauseBook$Hand" "sort" "I") (List.mem_of_getElem? (i := 5) rfl)) (fun _ h9 => h9) rfl (by decide +kernel) rfl rfl (Nat.le_of_ble_eq_true rfl) dX12_hold_87 (fun H locs hP hD hS => ?_)
                    obtain ⟨hP, hD⟩ := wPD [(h0, .inr (9, fs0)), (h1, .inr (1, fs1)), (h2, .inr (8, [v0, v1, .ref p0, .ref p1, v4, .int n])), (p0, .inl (T 1, 676, .inr (.inl f0))), (p1, .inl (T 1, 676, .inr (.inl f1))), (h3, .inl (T 7, 4, .inr (.inr (.inr (.inr (va_up (va_up (va_up (va_up (fun _ => none) 0 (some t0)) 1 (some t1)) 2 (some t2)) 3 (some t3))))))), (t0, .inr (3, [.int (jz 0), .int (jn 0), .long (ja 0), .long (jb 0)])), (t1, .inr (3, [.int x2, .int (jn 1), .long (ja 1), .long (jb 1)])), (t2, .inr (3, [.int (jz 2), .int (jn 2), .long (ja 2), .long (jb 2)])), (t3, .inr (3, [.int (jz 3), .int (jn 3), .long (ja 3), .long (jb 3)]))] hP hD rfl
                    refine lv_iload_n hx hb dX12_hold_90 rfl (lv_at hl 4 rfl) ?_
                    refine lv_iconst (v := 1) hx hb dX12_hold_91 (by decide +kernel) ?_
                    refine lv_icmp_ne (tgt := 102) hx hb dX12_hold_92 (by decide +kernel) (fun c_209 => ?_) (fun c_209 => ?_)
                    · rw [fa_eq] at c_209
                      try rw [ti_1] at c_209
                      refine lv_iload_n hx hb dX12_hold_102 rfl (lv_at hl 4 rfl) ?_
                      refine lv_iconst (v := 2) hx hb dX12_hold_103 (by decide +kernel) ?_
                      refine lv_icmp_ne (tgt := 152) hx hb dX12_hold_104 (by decide +kernel) (fun c_210 => ?_) (fun c_210 => ?_)
                      · rw [fa_eq] at c_210
                        try rw [ti_2] at c_210
                        refine lv_iload hx hb dX12_hold_152 (lv_at hl 0 rfl) ?_
                        exact W.iret hx hb hr (fun t ht hW => ⟨⟨_, (f0, f1, (fun k => [(jz 0), x2, (jz 2), (jz 3)].getD k 0), (fun k => [(jn 0), (jn 1), (jn 2), (jn 3)].getD k 0), (fun k => [(ja 0), (ja 1), (ja 2), (ja 3)].getD k 0), (fun k => [(jb 0), (jb 1), (jb 2), (jb 3)].getD k 0)), rfl, (Or.inr ⟨⟨⟨by decide, by decide⟩, by omega, (fun h9 => by omega), (fun h9 => by omega)⟩, rfl, all4' ⟨(fun h9 => absurd h9 (by decide +kernel)), (fun _ => ⟨rfl, rfl⟩)⟩ ⟨(fun _ => ⟨rfl, (fun h9 => by first | rfl | (exfalso; omega))⟩), (fun h9 => absurd (by decide +kernel) h9)⟩ ⟨(fun h9 => absurd h9 (by decide +kernel)), (fun _ => ⟨rfl, rfl⟩)⟩ ⟨(fun h9 => absurd h9 (by decide +kernel)), (fun _ => ⟨rfl, rfl⟩)⟩⟩), by rw [ht]; exact hP.sub [0, 1, 2, 3, 4, 5, 6, 7, 8, 9] rfl, hD.sub [0, 1, 2, 3, 4, 5, 6, 7, 8, 9] (by decide +kernel) rfl⟩, hS.F ht⟩) hS.2.2 dX12_hold_154
                      · rw [fa_eq] at c_210
                        try rw [ti_2] at c_210
                        refine lv_aload_n hx hb dX12_hold_107 rfl (lv_at hl 2 rfl) ?_
                        refine va_get (D := D) (ci := 9) (v := .ref h2) (C := RX12) (T := TX12) (N := 11) hx hb hts in_X12_hold_X12 hown hE.1 hP 0 rfl rfl 6 (by decide +kernel) (hts (.fieldLink RX12 43 "ClauseBook" "worth" "LClauseBook$Worth;") (List.mem_of_getElem? (i := 7) rfl)) (fun _ h9 => h9) e0_6 dX12_hold_108 ?_
                        refine lv_sipush (v := 675) hx hb dX12_hold_111 (by decide +kernel) ?_
                        refine lv_lload_n hx hb dX12_hold_114 rfl (lv_at hl 5 rfl) ?_
                        refine lv_lload hx hb dX12_hold_115 (lv_at hl 6 rfl) ?_
                        have hFc := va_free (wc := [(h2, .inr (8, [v0, v1, .ref p0, .ref p1, v4, .int n])), (p0, .inl (T 1, 676, .inr (.inl f0))), (p1, .inl (T 1, 676, .inr (.inl f1)))]) hD hS hA [2, 3, 4] rfl
                        refine va_callv (va_runV (As := [.int 675, .long x3, .long x4]) (rest := []) ⟨hx, hb, hml, hown, hts⟩ (c_X11_reduce l D T _ h2 p0 p1 (v0) (v1) (v4) n f0 f1 675 x3 x4 (by first | decide | omega)) (cwV 3 hts gX12_hold_X11_reduce rfl rfl rfl hv_X11_reduce ⟨Nat.le_of_ble_eq_true rfl, Nat.le_of_ble_eq_true rfl⟩) (pW_V (q := (RX11, TX11, 6)) (ci := 8) (q0 := 2) hP hE hD rfl rfl [2, 3, 4] (by decide +kernel) rfl rfl) rfl rfl hl.1 rfl (lv_room (Nat.le_of_ble_eq_true rfl)) dX12_hold_117 ⟨Nat.le_of_ble_eq_true rfl, Nat.le_of_ble_eq_true rfl⟩) hS (fun q _ h => hFc q h) hFc (fun u_212 t H1 locs ht hvm hr_211 hB hz1 hk1 hS => ?_)
                        obtain ⟨f_213, f_214⟩ := u_212
                        obtain ⟨hP1, hD1⟩ := hB
                        rw [ht] at hP1
                        obtain ⟨hP, hD⟩ := va_repl [(h0, .inr (9, fs0)), (h1, .inr (1, fs1)), (h2, .inr (8, [v0, v1, .ref p0, .ref p1, v4, .int n])), (p0, .inl (T 1, 676, .inr (.inl f_213))), (p1, .inl (T 1, 676, .inr (.inl f_214))), (h3, .inl (T 7, 4, .inr (.inr (.inr (.inr (va_up (va_up (va_up (va_up (fun _ => none) 0 (some t0)) 1 (some t1)) 2 (some t2)) 3 (some t3))))))), (t0, .inr (3, [.int (jz 0), .int (jn 0), .long (ja 0), .long (jb 0)])), (t1, .inr (3, [.int x2, .int (jn 1), .long (ja 1), .long (jb 1)])), (t2, .inr (3, [.int (jz 2), .int (jn 2), .long (ja 2), .long (jb 2)])), (t3, .inr (3, [.int (jz 3), .int (jn 3), .long (ja 3), .long (jb 3)]))] hP hD [2, 3, 4] [2, 3, 4] rfl (by decide +kernel) rfl rfl rfl hk1 hP1
                        clear hP1 hD1 hFc
                        generalize H1 = H at hP hS ⊢
                        refine lv_aload hx hb dX12_hold_120 (lv_at hl 1 rfl) ?_
                        refine lv_aload_n hx hb dX12_hold_122 rfl (lv_at hl 2 rfl) ?_
                        refine va_get (D := D) (ci := 9) (v := .ref h2) (C := RX12) (T := TX12) (N := 11) hx hb hts in_X12_hold_X12 hown hE.1 hP 0 rfl rfl 6 (by decide +kernel) (hts (.fieldLink RX12 43 "ClauseBook" "worth" "LClauseBook$Worth;") (List.mem_of_getElem? (i := 7) rfl)) (fun _ h9 => h9) e0_6 dX12_hold_123 ?_
                        refine va_get (D := D) (ci := 8) (v := .ref p0) (C := RX11) (T := TX11) (N := 6) hx hb hts in_X12_hold_X11 hown hE.1 hP 2 rfl rfl 2 (by decide +kernel) (hts (.fieldLink RX12 202 "ClauseBook$Worth" "above" "[J") (List.mem_of_getElem? (i := 8) rfl)) (fun _ h9 => h9) rfl dX12_hold_126 ?_
                        refine lv_sipush (v := 675) hx hb dX12_hold_129 (by decide +kernel) ?_
                        refine va_lald hx hb hE.1 hP 3 1 rfl rfl (by unfold vp_in; decide) dX12_hold_132 ?_
                        refine lv_topl (fun z_215 ez_215 => ?_)
                        refine va_put (D := D) (ci := 3) (v := .long z_215) (ty := .long) (C := RX4) (T := TX4) (N := 4) hx hb hts in_X12_hold_X4 tyX4 tyX4_ok nmX4 hown hE.1 hP hD hS 7 rfl rfl 2 (by decide +kernel) (hts (.fieldLink RX12 365 "ClauseBook$Hand" "above" "J") (List.mem_of_getElem? (i := 9) rfl)) (fun _ h9 => h9) rfl (by decide +kernel) rfl rfl (Nat.le_of_ble_eq_true rfl) dX12_hold_133 (fun H locs hP hD hS => ?_)
                        obtain ⟨hP, hD⟩ := wPD [(h0, .inr (9, fs0)), (h1, .inr (1, fs1)), (h2, .inr (8, [v0, v1, .ref p0, .ref p1, v4, .int n])), (p0, .inl (T 1, 676, .inr (.inl f_213))), (p1, .inl (T 1, 676, .inr (.inl f_214))), (h3, .inl (T 7, 4, .inr (.inr (.inr (.inr (va_up (va_up (va_up (va_up (fun _ => none) 0 (some t0)) 1 (some t1)) 2 (some t2)) 3 (some t3))))))), (t0, .inr (3, [.int (jz 0), .int (jn 0), .long (ja 0), .long (jb 0)])), (t1, .inr (3, [.int x2, .int (jn 1), .long z_215, .long (jb 1)])), (t2, .inr (3, [.int (jz 2), .int (jn 2), .long (ja 2), .long (jb 2)])), (t3, .inr (3, [.int (jz 3), .int (jn 3), .long (ja 3), .long (jb 3)]))] hP hD rfl
                        refine lv_aload hx hb dX12_hold_136 (lv_at hl 1 rfl) ?_
                        refine lv_aload_n hx hb dX12_hold_138 rfl (lv_at hl 2 rfl) ?_
                        refine va_get (D := D) (ci := 9) (v := .ref h2) (C := RX12) (T := TX12) (N := 11) hx hb hts in_X12_hold_X12 hown hE.1 hP 0 rfl rfl 6 (by decide +kernel) (hts (.fieldLink RX12 43 "ClauseBook" "worth" "LClauseBook$Worth;") (List.mem_of_getElem? (i := 7) rfl)) (fun _ h9 => h9) e0_6 dX12_hold_139 ?_
                        refine va_get (D := D) (ci := 8) (v := .ref p1) (C := RX11) (T := TX11) (N := 6) hx hb hts in_X12_hold_X11 hown hE.1 hP 2 rfl rfl 3 (by decide +kernel) (hts (.fieldLink RX12 206 "ClauseBook$Worth" "below" "[J") (List.mem_of_getElem? (i := 10) rfl)) (fun _ h9 => h9) rfl dX12_hold_142 ?_
                        refine lv_sipush (v := 675) hx hb dX12_hold_145 (by decide +kernel) ?_
                        refine va_lald hx hb hE.1 hP 4 1 rfl rfl (by unfold vp_in; decide) dX12_hold_148 ?_
                        refine lv_topl (fun z_216 ez_216 => ?_)
                        refine va_put (D := D) (ci := 3) (v := .long z_216) (ty := .long) (C := RX4) (T := TX4) (N := 4) hx hb hts in_X12_hold_X4 tyX4 tyX4_ok nmX4 hown hE.1 hP hD hS 7 rfl rfl 3 (by decide +kernel) (hts (.fieldLink RX12 368 "ClauseBook$Hand" "below" "J") (List.mem_of_getElem? (i := 11) rfl)) (fun _ h9 => h9) rfl (by decide +kernel) rfl rfl (Nat.le_of_ble_eq_true rfl) dX12_hold_149 (fun H locs hP hD hS => ?_)
                        obtain ⟨hP, hD⟩ := wPD [(h0, .inr (9, fs0)), (h1, .inr (1, fs1)), (h2, .inr (8, [v0, v1, .ref p0, .ref p1, v4, .int n])), (p0, .inl (T 1, 676, .inr (.inl f_213))), (p1, .inl (T 1, 676, .inr (.inl f_214))), (h3, .inl (T 7, 4, .inr (.inr (.inr (.inr (va_up (va_up (va_up (va_up (fun _ => none) 0 (some t0)) 1 (some t1)) 2 (some t2)) 3 (some t3))))))), (t0, .inr (3, [.int (jz 0), .int (jn 0), .long (ja 0), .long (jb 0)])), (t1, .inr (3, [.int x2, .int (jn 1), .long z_215, .long z_216])), (t2, .inr (3, [.int (jz 2), .int (jn 2), .long (ja 2), .long (jb 2)])), (t3, .inr (3, [.int (jz 3), .int (jn 3), .long (ja 3), .long (jb 3)]))] hP hD rfl
                        refine lv_iload hx hb dX12_hold_152 (lv_at hl 0 rfl) ?_
                        exact W.iret hx hb hr (fun t ht hW => ⟨⟨_, (f_213, f_214, (fun k => [(jz 0), x2, (jz 2), (jz 3)].getD k 0), (fun k => [(jn 0), (jn 1), (jn 2), (jn 3)].getD k 0), (fun k => [(ja 0), z_215, (ja 2), (ja 3)].getD k 0), (fun k => [(jb 0), z_216, (jb 2), (jb 3)].getD k 0)), rfl, (Or.inr ⟨⟨⟨by decide, by decide⟩, by omega, (fun h9 => by omega), (fun h9 => by omega)⟩, rfl, all4' ⟨(fun h9 => absurd h9 (by decide +kernel)), (fun _ => ⟨rfl, rfl⟩)⟩ ⟨(fun _ => ⟨rfl, (fun h9 => by first | rfl | (exfalso; omega))⟩), (fun h9 => absurd (by decide +kernel) h9)⟩ ⟨(fun h9 => absurd h9 (by decide +kernel)), (fun _ => ⟨rfl, rfl⟩)⟩ ⟨(fun h9 => absurd h9 (by decide +kernel)), (fun _ => ⟨rfl, rfl⟩)⟩⟩), by rw [ht]; exact hP.sub [0, 1, 2, 3, 4, 5, 6, 7, 8, 9] rfl, hD.sub [0, 1, 2, 3, 4, 5, 6, 7, 8, 9] (by decide +kernel) rfl⟩, hS.F ht⟩) hS.2.2 dX12_hold_154
                    · rw [fa_eq] at c_209
                      try rw [ti_1] at c_209
                      refine lv_aload hx hb dX12_hold_95 (lv_at hl 1 rfl) ?_
                      refine lv_lload_n hx hb dX12_hold_97 rfl (lv_at hl 5 rfl) ?_
                      refine lv_l2i hx hb dX12_hold_98 rfl ?_
                      refine va_put (D := D) (ci := 3) (v := .int (x3.toInt32)) (ty := .int) (C := RX4) (T := TX4) (N := 4) hx hb hts in_X12_hold_X4 tyX4 tyX4_ok nmX4 hown hE.1 hP hD hS 7 rfl rfl 1 (by decide +kernel) (hts (.fieldLink RX12 360 "ClauseBook$Hand" "number" "I") (List.mem_of_getElem? (i := 6) rfl)) (fun _ h9 => h9) rfl (by decide +kernel) rfl rfl (Nat.le_of_ble_eq_true rfl) dX12_hold_99 (fun H locs hP hD hS => ?_)
                      obtain ⟨hP, hD⟩ := wPD [(h0, .inr (9, fs0)), (h1, .inr (1, fs1)), (h2, .inr (8, [v0, v1, .ref p0, .ref p1, v4, .int n])), (p0, .inl (T 1, 676, .inr (.inl f0))), (p1, .inl (T 1, 676, .inr (.inl f1))), (h3, .inl (T 7, 4, .inr (.inr (.inr (.inr (va_up (va_up (va_up (va_up (fun _ => none) 0 (some t0)) 1 (some t1)) 2 (some t2)) 3 (some t3))))))), (t0, .inr (3, [.int (jz 0), .int (jn 0), .long (ja 0), .long (jb 0)])), (t1, .inr (3, [.int x2, .int (x3.toInt32), .long (ja 1), .long (jb 1)])), (t2, .inr (3, [.int (jz 2), .int (jn 2), .long (ja 2), .long (jb 2)])), (t3, .inr (3, [.int (jz 3), .int (jn 3), .long (ja 3), .long (jb 3)]))] hP hD rfl
                      refine lv_iload_n hx hb dX12_hold_102 rfl (lv_at hl 4 rfl) ?_
                      refine lv_iconst (v := 2) hx hb dX12_hold_103 (by decide +kernel) ?_
                      refine lv_icmp_ne (tgt := 152) hx hb dX12_hold_104 (by decide +kernel) (fun c_217 => ?_) (fun c_217 => ?_)
                      · rw [fa_eq] at c_217
                        try rw [ti_2] at c_217
                        refine lv_iload hx hb dX12_hold_152 (lv_at hl 0 rfl) ?_
                        exact W.iret hx hb hr (fun t ht hW => ⟨⟨_, (f0, f1, (fun k => [(jz 0), x2, (jz 2), (jz 3)].getD k 0), (fun k => [(jn 0), (x3.toInt32), (jn 2), (jn 3)].getD k 0), (fun k => [(ja 0), (ja 1), (ja 2), (ja 3)].getD k 0), (fun k => [(jb 0), (jb 1), (jb 2), (jb 3)].getD k 0)), rfl, (Or.inr ⟨⟨⟨by decide, by decide⟩, by omega, (fun h9 => by omega), (fun h9 => by omega)⟩, rfl, all4' ⟨(fun h9 => absurd h9 (by decide +kernel)), (fun _ => ⟨rfl, rfl⟩)⟩ ⟨(fun _ => ⟨rfl, (fun h9 => by first | rfl | (exfalso; omega))⟩), (fun h9 => absurd (by decide +kernel) h9)⟩ ⟨(fun h9 => absurd h9 (by decide +kernel)), (fun _ => ⟨rfl, rfl⟩)⟩ ⟨(fun h9 => absurd h9 (by decide +kernel)), (fun _ => ⟨rfl, rfl⟩)⟩⟩), by rw [ht]; exact hP.sub [0, 1, 2, 3, 4, 5, 6, 7, 8, 9] rfl, hD.sub [0, 1, 2, 3, 4, 5, 6, 7, 8, 9] (by decide +kernel) rfl⟩, hS.F ht⟩) hS.2.2 dX12_hold_154
                      · rw [fa_eq] at c_217
                        try rw [ti_2] at c_217
                        refine lv_aload_n hx hb dX12_hold_107 rfl (lv_at hl 2 rfl) ?_
                        refine va_get (D := D) (ci := 9) (v := .ref h2) (C := RX12) (T := TX12) (N := 11) hx hb hts in_X12_hold_X12 hown hE.1 hP 0 rfl rfl 6 (by decide +kernel) (hts (.fieldLink RX12 43 "ClauseBook" "worth" "LClauseBook$Worth;") (List.mem_of_getElem? (i := 7) rfl)) (fun _ h9 => h9) e0_6 dX12_hold_108 ?_
                        refine lv_sipush (v := 675) hx hb dX12_hold_111 (by decide +kernel) ?_
                        refine lv_lload_n hx hb dX12_hold_114 rfl (lv_at hl 5 rfl) ?_
                        refine lv_lload hx hb dX12_hold_115 (lv_at hl 6 rfl) ?_
                        have hFc := va_free (wc := [(h2, .inr (8, [v0, v1, .ref p0, .ref p1, v4, .int n])), (p0, .inl (T 1, 676, .inr (.inl f0))), (p1, .inl (T 1, 676, .inr (.inl f1)))]) hD hS hA [2, 3, 4] rfl
                        refine va_callv (va_runV (As := [.int 675, .long x3, .long x4]) (rest := []) ⟨hx, hb, hml, hown, hts⟩ (c_X11_reduce l D T _ h2 p0 p1 (v0) (v1) (v4) n f0 f1 675 x3 x4 (by first | decide | omega)) (cwV 3 hts gX12_hold_X11_reduce rfl rfl rfl hv_X11_reduce ⟨Nat.le_of_ble_eq_true rfl, Nat.le_of_ble_eq_true rfl⟩) (pW_V (q := (RX11, TX11, 6)) (ci := 8) (q0 := 2) hP hE hD rfl rfl [2, 3, 4] (by decide +kernel) rfl rfl) rfl rfl hl.1 rfl (lv_room (Nat.le_of_ble_eq_true rfl)) dX12_hold_117 ⟨Nat.le_of_ble_eq_true rfl, Nat.le_of_ble_eq_true rfl⟩) hS (fun q _ h => hFc q h) hFc (fun u_219 t H1 locs ht hvm hr_218 hB hz1 hk1 hS => ?_)
                        obtain ⟨f_220, f_221⟩ := u_219
                        obtain ⟨hP1, hD1⟩ := hB
                        rw [ht] at hP1
                        obtain ⟨hP, hD⟩ := va_repl [(h0, .inr (9, fs0)), (h1, .inr (1, fs1)), (h2, .inr (8, [v0, v1, .ref p0, .ref p1, v4, .int n])), (p0, .inl (T 1, 676, .inr (.inl f_220))), (p1, .inl (T 1, 676, .inr (.inl f_221))), (h3, .inl (T 7, 4, .inr (.inr (.inr (.inr (va_up (va_up (va_up (va_up (fun _ => none) 0 (some t0)) 1 (some t1)) 2 (some t2)) 3 (some t3))))))), (t0, .inr (3, [.int (jz 0), .int (jn 0), .long (ja 0), .long (jb 0)])), (t1, .inr (3, [.int x2, .int (x3.toInt32), .long (ja 1), .long (jb 1)])), (t2, .inr (3, [.int (jz 2), .int (jn 2), .long (ja 2), .long (jb 2)])), (t3, .inr (3, [.int (jz 3), .int (jn 3), .long (ja 3), .long (jb 3)]))] hP hD [2, 3, 4] [2, 3, 4] rfl (by decide +kernel) rfl rfl rfl hk1 hP1
                        clear hP1 hD1 hFc
                        generalize H1 = H at hP hS ⊢
                        refine lv_aload hx hb dX12_hold_120 (lv_at hl 1 rfl) ?_
                        refine lv_aload_n hx hb dX12_hold_122 rfl (lv_at hl 2 rfl) ?_
                        refine va_get (D := D) (ci := 9) (v := .ref h2) (C := RX12) (T := TX12) (N := 11) hx hb hts in_X12_hold_X12 hown hE.1 hP 0 rfl rfl 6 (by decide +kernel) (hts (.fieldLink RX12 43 "ClauseBook" "worth" "LClauseBook$Worth;") (List.mem_of_getElem? (i := 7) rfl)) (fun _ h9 => h9) e0_6 dX12_hold_123 ?_
                        refine va_get (D := D) (ci := 8) (v := .ref p0) (C := RX11) (T := TX11) (N := 6) hx hb hts in_X12_hold_X11 hown hE.1 hP 2 rfl rfl 2 (by decide +kernel) (hts (.fieldLink RX12 202 "ClauseBook$Worth" "above" "[J") (List.mem_of_getElem? (i := 8) rfl)) (fun _ h9 => h9) rfl dX12_hold_126 ?_
                        refine lv_sipush (v := 675) hx hb dX12_hold_129 (by decide +kernel) ?_
                        refine va_lald hx hb hE.1 hP 3 1 rfl rfl (by unfold vp_in; decide) dX12_hold_132 ?_
                        refine lv_topl (fun z_222 ez_222 => ?_)
                        refine va_put (D := D) (ci := 3) (v := .long z_222) (ty := .long) (C := RX4) (T := TX4) (N := 4) hx hb hts in_X12_hold_X4 tyX4 tyX4_ok nmX4 hown hE.1 hP hD hS 7 rfl rfl 2 (by decide +kernel) (hts (.fieldLink RX12 365 "ClauseBook$Hand" "above" "J") (List.mem_of_getElem? (i := 9) rfl)) (fun _ h9 => h9) rfl (by decide +kernel) rfl rfl (Nat.le_of_ble_eq_true rfl) dX12_hold_133 (fun H locs hP hD hS => ?_)
                        obtain ⟨hP, hD⟩ := wPD [(h0, .inr (9, fs0)), (h1, .inr (1, fs1)), (h2, .inr (8, [v0, v1, .ref p0, .ref p1, v4, .int n])), (p0, .inl (T 1, 676, .inr (.inl f_220))), (p1, .inl (T 1, 676, .inr (.inl f_221))), (h3, .inl (T 7, 4, .inr (.inr (.inr (.inr (va_up (va_up (va_up (va_up (fun _ => none) 0 (some t0)) 1 (some t1)) 2 (some t2)) 3 (some t3))))))), (t0, .inr (3, [.int (jz 0), .int (jn 0), .long (ja 0), .long (jb 0)])), (t1, .inr (3, [.int x2, .int (x3.toInt32), .long z_222, .long (jb 1)])), (t2, .inr (3, [.int (jz 2), .int (jn 2), .long (ja 2), .long (jb 2)])), (t3, .inr (3, [.int (jz 3), .int (jn 3), .long (ja 3), .long (jb 3)]))] hP hD rfl
                        refine lv_aload hx hb dX12_hold_136 (lv_at hl 1 rfl) ?_
                        refine lv_aload_n hx hb dX12_hold_138 rfl (lv_at hl 2 rfl) ?_
                        refine va_get (D := D) (ci := 9) (v := .ref h2) (C := RX12) (T := TX12) (N := 11) hx hb hts in_X12_hold_X12 hown hE.1 hP 0 rfl rfl 6 (by decide +kernel) (hts (.fieldLink RX12 43 "ClauseBook" "worth" "LClauseBook$Worth;") (List.mem_of_getElem? (i := 7) rfl)) (fun _ h9 => h9) e0_6 dX12_hold_139 ?_
                        refine va_get (D := D) (ci := 8) (v := .ref p1) (C := RX11) (T := TX11) (N := 6) hx hb hts in_X12_hold_X11 hown hE.1 hP 2 rfl rfl 3 (by decide +kernel) (hts (.fieldLink RX12 206 "ClauseBook$Worth" "below" "[J") (List.mem_of_getElem? (i := 10) rfl)) (fun _ h9 => h9) rfl dX12_hold_142 ?_
                        refine lv_sipush (v := 675) hx hb dX12_hold_145 (by decide +kernel) ?_
                        refine va_lald hx hb hE.1 hP 4 1 rfl rfl (by unfold vp_in; decide) dX12_hold_148 ?_
                        refine lv_topl (fun z_223 ez_223 => ?_)
                        refine va_put (D := D) (ci := 3) (v := .long z_223) (ty := .long) (C := RX4) (T := TX4) (N := 4) hx hb hts in_X12_hold_X4 tyX4 tyX4_ok nmX4 hown hE.1 hP hD hS 7 rfl rfl 3 (by decide +kernel) (hts (.fieldLink RX12 368 "ClauseBook$Hand" "below" "J") (List.mem_of_getElem? (i := 11) rfl)) (fun _ h9 => h9) rfl (by decide +kernel) rfl rfl (Nat.le_of_ble_eq_true rfl) dX12_hold_149 (fun H locs hP hD hS => ?_)
                        obtain ⟨hP, hD⟩ := wPD [(h0, .inr (9, fs0)), (h1, .inr (1, fs1)), (h2, .inr (8, [v0, v1, .ref p0, .ref p1, v4, .int n])), (p0, .inl (T 1, 676, .inr (.inl f_220))), (p1, .inl (T 1, 676, .inr (.inl f_221))), (h3, .inl (T 7, 4, .inr (.inr (.inr (.inr (va_up (va_up (va_up (va_up (fun _ => none) 0 (some t0)) 1 (some t1)) 2 (some t2)) 3 (some t3))))))), (t0, .inr (3, [.int (jz 0), .int (jn 0), .long (ja 0), .long (jb 0)])), (t1, .inr (3, [.int x2, .int (x3.toInt32), .long z_222, .long z_223])), (t2, .inr (3, [.int (jz 2), .int (jn 2), .long (ja 2), .long (jb 2)])), (t3, .inr (3, [.int (jz 3), .int (jn 3), .long (ja 3), .long (jb 3)]))] hP hD rfl
                        refine lv_iload hx hb dX12_hold_152 (lv_at hl 0 rfl) ?_
                        exact W.iret hx hb hr (fun t ht hW => ⟨⟨_, (f_220, f_221, (fun k => [(jz 0), x2, (jz 2), (jz 3)].getD k 0), (fun k => [(jn 0), (x3.toInt32), (jn 2), (jn 3)].getD k 0), (fun k => [(ja 0), z_222, (ja 2), (ja 3)].getD k 0), (fun k => [(jb 0), z_223, (jb 2), (jb 3)].getD k 0)), rfl, (Or.inr ⟨⟨⟨by decide, by decide⟩, by omega, (fun h9 => by omega), (fun h9 => by omega)⟩, rfl, all4' ⟨(fun h9 => absurd h9 (by decide +kernel)), (fun _ => ⟨rfl, rfl⟩)⟩ ⟨(fun _ => ⟨rfl, (fun h9 => by first | rfl | (exfalso; omega))⟩), (fun h9 => absurd (by decide +kernel) h9)⟩ ⟨(fun h9 => absurd h9 (by decide +kernel)), (fun _ => ⟨rfl, rfl⟩)⟩ ⟨(fun h9 => absurd h9 (by decide +kernel)), (fun _ => ⟨rfl, rfl⟩)⟩⟩), by rw [ht]; exact hP.sub [0, 1, 2, 3, 4, 5, 6, 7, 8, 9] rfl, hD.sub [0, 1, 2, 3, 4, 5, 6, 7, 8, 9] (by decide +kernel) rfl⟩, hS.F ht⟩) hS.2.2 dX12_hold_154
                  · refine va_aldq hx hb hE.1 hP 5 7 rfl rfl (by unfold vp_in; decide) dX12_hold_74 ?_
                    refine W.eq (g2 := F0 m 75 ls [.ref t2]) rfl ?_
                    refine lv_astore (lv' := [(7, .ref t2), (0, .ref h0), (1, .int 2), (2, .int x2), (3, .long x3), (5, .long x4)]) hx hb dX12_hold_75 hl (by decide +kernel) rfl (fun ls hl => ?_)
                    refine lv_aload hx hb dX12_hold_77 (lv_at hl 0 rfl) ?_
                    refine va_get (D := D) (ci := 3) (v := .int (jz 2)) (C := RX4) (T := TX4) (N := 4) hx hb hts in_X12_hold_X4 hown hE.1 hP 8 rfl rfl 0 (by decide +kernel) (hts (.fieldLink RX12 359 "ClauseBook$Hand" "sort" "I") (List.mem_of_getElem? (i := 5) rfl)) (fun _ h9 => h9) rfl dX12_hold_79 ?_
                    refine lv_istore (lv' := [(8, .int (jz 2)), (7, .ref t2), (0, .ref h0), (1, .int 2), (2, .int x2), (3, .long x3), (5, .long x4)]) hx hb dX12_hold_82 hl (by decide +kernel) rfl (fun ls hl => ?_)
                    refine lv_aload hx hb dX12_hold_84 (lv_at hl 1 rfl) ?_
                    refine lv_iload_n hx hb dX12_hold_86 rfl (lv_at hl 4 rfl) ?_
                    refine va_put (D := D) (ci := 3) (v := .int x2) (ty := .int) (C := RX4) (T := TX4) (N := 4) hx hb hts in_X12_hold_X4 tyX4 tyX4_ok nmX4 hown hE.1 hP hD hS 8 rfl rfl 0 (by decide +kernel) (hts (.fieldLink RX12 359 "ClauseBook$Hand" "sort" "I") (List.mem_of_getElem? (i := 5) rfl)) (fun _ h9 => h9) rfl (by decide +kernel) rfl rfl (Nat.le_of_ble_eq_true rfl) dX12_hold_87 (fun H locs hP hD hS => ?_)
                    obtain ⟨hP, hD⟩ := wPD [(h0, .inr (9, fs0)), (h1, .inr (1, fs1)), (h2, .inr (8, [v0, v1, .ref p0, .ref p1, v4, .int n])), (p0, .inl (T 1, 676, .inr (.inl f0))), (p1, .inl (T 1, 676, .inr (.inl f1))), (h3, .inl (T 7, 4, .inr (.inr (.inr (.inr (va_up (va_up (va_up (va_up (fun _ => none) 0 (some t0)) 1 (some t1)) 2 (some t2)) 3 (some t3))))))), (t0, .inr (3, [.int (jz 0), .int (jn 0), .long (ja 0), .long (jb 0)])), (t1, .inr (3, [.int (jz 1), .int (jn 1), .long (ja 1), .long (jb 1)])), (t2, .inr (3, [.int x2, .int (jn 2), .long (ja 2), .long (jb 2)])), (t3, .inr (3, [.int (jz 3), .int (jn 3), .long (ja 3), .long (jb 3)]))] hP hD rfl
                    refine lv_iload_n hx hb dX12_hold_90 rfl (lv_at hl 4 rfl) ?_
                    refine lv_iconst (v := 1) hx hb dX12_hold_91 (by decide +kernel) ?_
                    refine lv_icmp_ne (tgt := 102) hx hb dX12_hold_92 (by decide +kernel) (fun c_224 => ?_) (fun c_224 => ?_)
                    · rw [fa_eq] at c_224
                      try rw [ti_1] at c_224
                      refine lv_iload_n hx hb dX12_hold_102 rfl (lv_at hl 4 rfl) ?_
                      refine lv_iconst (v := 2) hx hb dX12_hold_103 (by decide +kernel) ?_
                      refine lv_icmp_ne (tgt := 152) hx hb dX12_hold_104 (by decide +kernel) (fun c_225 => ?_) (fun c_225 => ?_)
                      · rw [fa_eq] at c_225
                        try rw [ti_2] at c_225
                        refine lv_iload hx hb dX12_hold_152 (lv_at hl 0 rfl) ?_
                        exact W.iret hx hb hr (fun t ht hW => ⟨⟨_, (f0, f1, (fun k => [(jz 0), (jz 1), x2, (jz 3)].getD k 0), (fun k => [(jn 0), (jn 1), (jn 2), (jn 3)].getD k 0), (fun k => [(ja 0), (ja 1), (ja 2), (ja 3)].getD k 0), (fun k => [(jb 0), (jb 1), (jb 2), (jb 3)].getD k 0)), rfl, (Or.inr ⟨⟨⟨by decide, by decide⟩, by omega, (fun h9 => by omega), (fun h9 => by omega)⟩, rfl, all4' ⟨(fun h9 => absurd h9 (by decide +kernel)), (fun _ => ⟨rfl, rfl⟩)⟩ ⟨(fun h9 => absurd h9 (by decide +kernel)), (fun _ => ⟨rfl, rfl⟩)⟩ ⟨(fun _ => ⟨rfl, (fun h9 => by first | rfl | (exfalso; omega))⟩), (fun h9 => absurd (by decide +kernel) h9)⟩ ⟨(fun h9 => absurd h9 (by decide +kernel)), (fun _ => ⟨rfl, rfl⟩)⟩⟩), by rw [ht]; exact hP.sub [0, 1, 2, 3, 4, 5, 6, 7, 8, 9] rfl, hD.sub [0, 1, 2, 3, 4, 5, 6, 7, 8, 9] (by decide +kernel) rfl⟩, hS.F ht⟩) hS.2.2 dX12_hold_154
                      · rw [fa_eq] at c_225
                        try rw [ti_2] at c_225
                        refine lv_aload_n hx hb dX12_hold_107 rfl (lv_at hl 2 rfl) ?_
                        refine va_get (D := D) (ci := 9) (v := .ref h2) (C := RX12) (T := TX12) (N := 11) hx hb hts in_X12_hold_X12 hown hE.1 hP 0 rfl rfl 6 (by decide +kernel) (hts (.fieldLink RX12 43 "ClauseBook" "worth" "LClauseBook$Worth;") (List.mem_of_getElem? (i := 7) rfl)) (fun _ h9 => h9) e0_6 dX12_hold_108 ?_
                        refine lv_sipush (v := 675) hx hb dX12_hold_111 (by decide +kernel) ?_
                        refine lv_lload_n hx hb dX12_hold_114 rfl (lv_at hl 5 rfl) ?_
                        refine lv_lload hx hb dX12_hold_115 (lv_at hl 6 rfl) ?_
                        have hFc := va_free (wc := [(h2, .inr (8, [v0, v1, .ref p0, .ref p1, v4, .int n])), (p0, .inl (T 1, 676, .inr (.inl f0))), (p1, .inl (T 1, 676, .inr (.inl f1)))]) hD hS hA [2, 3, 4] rfl
                        refine va_callv (va_runV (As := [.int 675, .long x3, .long x4]) (rest := []) ⟨hx, hb, hml, hown, hts⟩ (c_X11_reduce l D T _ h2 p0 p1 (v0) (v1) (v4) n f0 f1 675 x3 x4 (by first | decide | omega)) (cwV 3 hts gX12_hold_X11_reduce rfl rfl rfl hv_X11_reduce ⟨Nat.le_of_ble_eq_true rfl, Nat.le_of_ble_eq_true rfl⟩) (pW_V (q := (RX11, TX11, 6)) (ci := 8) (q0 := 2) hP hE hD rfl rfl [2, 3, 4] (by decide +kernel) rfl rfl) rfl rfl hl.1 rfl (lv_room (Nat.le_of_ble_eq_true rfl)) dX12_hold_117 ⟨Nat.le_of_ble_eq_true rfl, Nat.le_of_ble_eq_true rfl⟩) hS (fun q _ h => hFc q h) hFc (fun u_227 t H1 locs ht hvm hr_226 hB hz1 hk1 hS => ?_)
                        obtain ⟨f_228, f_229⟩ := u_227
                        obtain ⟨hP1, hD1⟩ := hB
                        rw [ht] at hP1
                        obtain ⟨hP, hD⟩ := va_repl [(h0, .inr (9, fs0)), (h1, .inr (1, fs1)), (h2, .inr (8, [v0, v1, .ref p0, .ref p1, v4, .int n])), (p0, .inl (T 1, 676, .inr (.inl f_228))), (p1, .inl (T 1, 676, .inr (.inl f_229))), (h3, .inl (T 7, 4, .inr (.inr (.inr (.inr (va_up (va_up (va_up (va_up (fun _ => none) 0 (some t0)) 1 (some t1)) 2 (some t2)) 3 (some t3))))))), (t0, .inr (3, [.int (jz 0), .int (jn 0), .long (ja 0), .long (jb 0)])), (t1, .inr (3, [.int (jz 1), .int (jn 1), .long (ja 1), .long (jb 1)])), (t2, .inr (3, [.int x2, .int (jn 2), .long (ja 2), .long (jb 2)])), (t3, .inr (3, [.int (jz 3), .int (jn 3), .long (ja 3), .long (jb 3)]))] hP hD [2, 3, 4] [2, 3, 4] rfl (by decide +kernel) rfl rfl rfl hk1 hP1
                        clear hP1 hD1 hFc
                        generalize H1 = H at hP hS ⊢
                        refine lv_aload hx hb dX12_hold_120 (lv_at hl 1 rfl) ?_
                        refine lv_aload_n hx hb dX12_hold_122 rfl (lv_at hl 2 rfl) ?_
                        refine va_get (D := D) (ci := 9) (v := .ref h2) (C := RX12) (T := TX12) (N := 11) hx hb hts in_X12_hold_X12 hown hE.1 hP 0 rfl rfl 6 (by decide +kernel) (hts (.fieldLink RX12 43 "ClauseBook" "worth" "LClauseBook$Worth;") (List.mem_of_getElem? (i := 7) rfl)) (fun _ h9 => h9) e0_6 dX12_hold_123 ?_
                        refine va_get (D := D) (ci := 8) (v := .ref p0) (C := RX11) (T := TX11) (N := 6) hx hb hts in_X12_hold_X11 hown hE.1 hP 2 rfl rfl 2 (by decide +kernel) (hts (.fieldLink RX12 202 "ClauseBook$Worth" "above" "[J") (List.mem_of_getElem? (i := 8) rfl)) (fun _ h9 => h9) rfl dX12_hold_126 ?_
                        refine lv_sipush (v := 675) hx hb dX12_hold_129 (by decide +kernel) ?_
                        refine va_lald hx hb hE.1 hP 3 1 rfl rfl (by unfold vp_in; decide) dX12_hold_132 ?_
                        refine lv_topl (fun z_230 ez_230 => ?_)
                        refine va_put (D := D) (ci := 3) (v := .long z_230) (ty := .long) (C := RX4) (T := TX4) (N := 4) hx hb hts in_X12_hold_X4 tyX4 tyX4_ok nmX4 hown hE.1 hP hD hS 8 rfl rfl 2 (by decide +kernel) (hts (.fieldLink RX12 365 "ClauseBook$Hand" "above" "J") (List.mem_of_getElem? (i := 9) rfl)) (fun _ h9 => h9) rfl (by decide +kernel) rfl rfl (Nat.le_of_ble_eq_true rfl) dX12_hold_133 (fun H locs hP hD hS => ?_)
                        obtain ⟨hP, hD⟩ := wPD [(h0, .inr (9, fs0)), (h1, .inr (1, fs1)), (h2, .inr (8, [v0, v1, .ref p0, .ref p1, v4, .int n])), (p0, .inl (T 1, 676, .inr (.inl f_228))), (p1, .inl (T 1, 676, .inr (.inl f_229))), (h3, .inl (T 7, 4, .inr (.inr (.inr (.inr (va_up (va_up (va_up (va_up (fun _ => none) 0 (some t0)) 1 (some t1)) 2 (some t2)) 3 (some t3))))))), (t0, .inr (3, [.int (jz 0), .int (jn 0), .long (ja 0), .long (jb 0)])), (t1, .inr (3, [.int (jz 1), .int (jn 1), .long (ja 1), .long (jb 1)])), (t2, .inr (3, [.int x2, .int (jn 2), .long z_230, .long (jb 2)])), (t3, .inr (3, [.int (jz 3), .int (jn 3), .long (ja 3), .long (jb 3)]))] hP hD rfl
                        refine lv_aload hx hb dX12_hold_136 (lv_at hl 1 rfl) ?_
                        refine lv_aload_n hx hb dX12_hold_138 rfl (lv_at hl 2 rfl) ?_
                        refine va_get (D := D) (ci := 9) (v := .ref h2) (C := RX12) (T := TX12) (N := 11) hx hb hts in_X12_hold_X12 hown hE.1 hP 0 rfl rfl 6 (by decide +kernel) (hts (.fieldLink RX12 43 "ClauseBook" "worth" "LClauseBook$Worth;") (List.mem_of_getElem? (i := 7) rfl)) (fun _ h9 => h9) e0_6 dX12_hold_139 ?_
                        refine va_get (D := D) (ci := 8) (v := .ref p1) (C := RX11) (T := TX11) (N := 6) hx hb hts in_X12_hold_X11 hown hE.1 hP 2 rfl rfl 3 (by decide +kernel) (hts (.fieldLink RX12 206 "ClauseBook$Worth" "below" "[J") (List.mem_of_getElem? (i := 10) rfl)) (fun _ h9 => h9) rfl dX12_hold_142 ?_
                        refine lv_sipush (v := 675) hx hb dX12_hold_145 (by decide +kernel) ?_
                        refine va_lald hx hb hE.1 hP 4 1 rfl rfl (by unfold vp_in; decide) dX12_hold_148 ?_
                        refine lv_topl (fun z_231 ez_231 => ?_)
                        refine va_put (D := D) (ci := 3) (v := .long z_231) (ty := .long) (C := RX4) (T := TX4) (N := 4) hx hb hts in_X12_hold_X4 tyX4 tyX4_ok nmX4 hown hE.1 hP hD hS 8 rfl rfl 3 (by decide +kernel) (hts (.fieldLink RX12 368 "ClauseBook$Hand" "below" "J") (List.mem_of_getElem? (i := 11) rfl)) (fun _ h9 => h9) rfl (by decide +kernel) rfl rfl (Nat.le_of_ble_eq_true rfl) dX12_hold_149 (fun H locs hP hD hS => ?_)
                        obtain ⟨hP, hD⟩ := wPD [(h0, .inr (9, fs0)), (h1, .inr (1, fs1)), (h2, .inr (8, [v0, v1, .ref p0, .ref p1, v4, .int n])), (p0, .inl (T 1, 676, .inr (.inl f_228))), (p1, .inl (T 1, 676, .inr (.inl f_229))), (h3, .inl (T 7, 4, .inr (.inr (.inr (.inr (va_up (va_up (va_up (va_up (fun _ => none) 0 (some t0)) 1 (some t1)) 2 (some t2)) 3 (some t3))))))), (t0, .inr (3, [.int (jz 0), .int (jn 0), .long (ja 0), .long (jb 0)])), (t1, .inr (3, [.int (jz 1), .int (jn 1), .long (ja 1), .long (jb 1)])), (t2, .inr (3, [.int x2, .int (jn 2), .long z_230, .long z_231])), (t3, .inr (3, [.int (jz 3), .int (jn 3), .long (ja 3), .long (jb 3)]))] hP hD rfl
                        refine lv_iload hx hb dX12_hold_152 (lv_at hl 0 rfl) ?_
                        exact W.iret hx hb hr (fun t ht hW => ⟨⟨_, (f_228, f_229, (fun k => [(jz 0), (jz 1), x2, (jz 3)].getD k 0), (fun k => [(jn 0), (jn 1), (jn 2), (jn 3)].getD k 0), (fun k => [(ja 0), (ja 1), z_230, (ja 3)].getD k 0), (fun k => [(jb 0), (jb 1), z_231, (jb 3)].getD k 0)), rfl, (Or.inr ⟨⟨⟨by decide, by decide⟩, by omega, (fun h9 => by omega), (fun h9 => by omega)⟩, rfl, all4' ⟨(fun h9 => absurd h9 (by decide +kernel)), (fun _ => ⟨rfl, rfl⟩)⟩ ⟨(fun h9 => absurd h9 (by decide +kernel)), (fun _ => ⟨rfl, rfl⟩)⟩ ⟨(fun _ => ⟨rfl, (fun h9 => by first | rfl | (exfalso; omega))⟩), (fun h9 => absurd (by decide +kernel) h9)⟩ ⟨(fun h9 => absurd h9 (by decide +kernel)), (fun _ => ⟨rfl, rfl⟩)⟩⟩), by rw [ht]; exact hP.sub [0, 1, 2, 3, 4, 5, 6, 7, 8, 9] rfl, hD.sub [0, 1, 2, 3, 4, 5, 6, 7, 8, 9] (by decide +kernel) rfl⟩, hS.F ht⟩) hS.2.2 dX12_hold_154
                    · rw [fa_eq] at c_224
                      try rw [ti_1] at c_224
                      refine lv_aload hx hb dX12_hold_95 (lv_at hl 1 rfl) ?_
                      refine lv_lload_n hx hb dX12_hold_97 rfl (lv_at hl 5 rfl) ?_
                      refine lv_l2i hx hb dX12_hold_98 rfl ?_
                      refine va_put (D := D) (ci := 3) (v := .int (x3.toInt32)) (ty := .int) (C := RX4) (T := TX4) (N := 4) hx hb hts in_X12_hold_X4 tyX4 tyX4_ok nmX4 hown hE.1 hP hD hS 8 rfl rfl 1 (by decide +kernel) (hts (.fieldLink RX12 360 "ClauseBook$Hand" "number" "I") (List.mem_of_getElem? (i := 6) rfl)) (fun _ h9 => h9) rfl (by decide +kernel) rfl rfl (Nat.le_of_ble_eq_true rfl) dX12_hold_99 (fun H locs hP hD hS => ?_)
                      obtain ⟨hP, hD⟩ := wPD [(h0, .inr (9, fs0)), (h1, .inr (1, fs1)), (h2, .inr (8, [v0, v1, .ref p0, .ref p1, v4, .int n])), (p0, .inl (T 1, 676, .inr (.inl f0))), (p1, .inl (T 1, 676, .inr (.inl f1))), (h3, .inl (T 7, 4, .inr (.inr (.inr (.inr (va_up (va_up (va_up (va_up (fun _ => none) 0 (some t0)) 1 (some t1)) 2 (some t2)) 3 (some t3))))))), (t0, .inr (3, [.int (jz 0), .int (jn 0), .long (ja 0), .long (jb 0)])), (t1, .inr (3, [.int (jz 1), .int (jn 1), .long (ja 1), .long (jb 1)])), (t2, .inr (3, [.int x2, .int (x3.toInt32), .long (ja 2), .long (jb 2)])), (t3, .inr (3, [.int (jz 3), .int (jn 3), .long (ja 3), .long (jb 3)]))] hP hD rfl
                      refine lv_iload_n hx hb dX12_hold_102 rfl (lv_at hl 4 rfl) ?_
                      refine lv_iconst (v := 2) hx hb dX12_hold_103 (by decide +kernel) ?_
                      refine lv_icmp_ne (tgt := 152) hx hb dX12_hold_104 (by decide +kernel) (fun c_232 => ?_) (fun c_232 => ?_)
                      · rw [fa_eq] at c_232
                        try rw [ti_2] at c_232
                        refine lv_iload hx hb dX12_hold_152 (lv_at hl 0 rfl) ?_
                        exact W.iret hx hb hr (fun t ht hW => ⟨⟨_, (f0, f1, (fun k => [(jz 0), (jz 1), x2, (jz 3)].getD k 0), (fun k => [(jn 0), (jn 1), (x3.toInt32), (jn 3)].getD k 0), (fun k => [(ja 0), (ja 1), (ja 2), (ja 3)].getD k 0), (fun k => [(jb 0), (jb 1), (jb 2), (jb 3)].getD k 0)), rfl, (Or.inr ⟨⟨⟨by decide, by decide⟩, by omega, (fun h9 => by omega), (fun h9 => by omega)⟩, rfl, all4' ⟨(fun h9 => absurd h9 (by decide +kernel)), (fun _ => ⟨rfl, rfl⟩)⟩ ⟨(fun h9 => absurd h9 (by decide +kernel)), (fun _ => ⟨rfl, rfl⟩)⟩ ⟨(fun _ => ⟨rfl, (fun h9 => by first | rfl | (exfalso; omega))⟩), (fun h9 => absurd (by decide +kernel) h9)⟩ ⟨(fun h9 => absurd h9 (by decide +kernel)), (fun _ => ⟨rfl, rfl⟩)⟩⟩), by rw [ht]; exact hP.sub [0, 1, 2, 3, 4, 5, 6, 7, 8, 9] rfl, hD.sub [0, 1, 2, 3, 4, 5, 6, 7, 8, 9] (by decide +kernel) rfl⟩, hS.F ht⟩) hS.2.2 dX12_hold_154
                      · rw [fa_eq] at c_232
                        try rw [ti_2] at c_232
                        refine lv_aload_n hx hb dX12_hold_107 rfl (lv_at hl 2 rfl) ?_
                        refine va_get (D := D) (ci := 9) (v := .ref h2) (C := RX12) (T := TX12) (N := 11) hx hb hts in_X12_hold_X12 hown hE.1 hP 0 rfl rfl 6 (by decide +kernel) (hts (.fieldLink RX12 43 "ClauseBook" "worth" "LClauseBook$Worth;") (List.mem_of_getElem? (i := 7) rfl)) (fun _ h9 => h9) e0_6 dX12_hold_108 ?_
                        refine lv_sipush (v := 675) hx hb dX12_hold_111 (by decide +kernel) ?_
                        refine lv_lload_n hx hb dX12_hold_114 rfl (lv_at hl 5 rfl) ?_
                        refine lv_lload hx hb dX12_hold_115 (lv_at hl 6 rfl) ?_
                        have hFc := va_free (wc := [(h2, .inr (8, [v0, v1, .ref p0, .ref p1, v4, .int n])), (p0, .inl (T 1, 676, .inr (.inl f0))), (p1, .inl (T 1, 676, .inr (.inl f1)))]) hD hS hA [2, 3, 4] rfl
                        refine va_callv (va_runV (As := [.int 675, .long x3, .long x4]) (rest := []) ⟨hx, hb, hml, hown, hts⟩ (c_X11_reduce l D T _ h2 p0 p1 (v0) (v1) (v4) n f0 f1 675 x3 x4 (by first | decide | omega)) (cwV 3 hts gX12_hold_X11_reduce rfl rfl rfl hv_X11_reduce ⟨Nat.le_of_ble_eq_true rfl, Nat.le_of_ble_eq_true rfl⟩) (pW_V (q := (RX11, TX11, 6)) (ci := 8) (q0 := 2) hP hE hD rfl rfl [2, 3, 4] (by decide +kernel) rfl rfl) rfl rfl hl.1 rfl (lv_room (Nat.le_of_ble_eq_true rfl)) dX12_hold_117 ⟨Nat.le_of_ble_eq_true rfl, Nat.le_of_ble_eq_true rfl⟩) hS (fun q _ h => hFc q h) hFc (fun u_234 t H1 locs ht hvm hr_233 hB hz1 hk1 hS => ?_)
                        obtain ⟨f_235, f_236⟩ := u_234
                        obtain ⟨hP1, hD1⟩ := hB
                        rw [ht] at hP1
                        obtain ⟨hP, hD⟩ := va_repl [(h0, .inr (9, fs0)), (h1, .inr (1, fs1)), (h2, .inr (8, [v0, v1, .ref p0, .ref p1, v4, .int n])), (p0, .inl (T 1, 676, .inr (.inl f_235))), (p1, .inl (T 1, 676, .inr (.inl f_236))), (h3, .inl (T 7, 4, .inr (.inr (.inr (.inr (va_up (va_up (va_up (va_up (fun _ => none) 0 (some t0)) 1 (some t1)) 2 (some t2)) 3 (some t3))))))), (t0, .inr (3, [.int (jz 0), .int (jn 0), .long (ja 0), .long (jb 0)])), (t1, .inr (3, [.int (jz 1), .int (jn 1), .long (ja 1), .long (jb 1)])), (t2, .inr (3, [.int x2, .int (x3.toInt32), .long (ja 2), .long (jb 2)])), (t3, .inr (3, [.int (jz 3), .int (jn 3), .long (ja 3), .long (jb 3)]))] hP hD [2, 3, 4] [2, 3, 4] rfl (by decide +kernel) rfl rfl rfl hk1 hP1
                        clear hP1 hD1 hFc
                        generalize H1 = H at hP hS ⊢
                        refine lv_aload hx hb dX12_hold_120 (lv_at hl 1 rfl) ?_
                        refine lv_aload_n hx hb dX12_hold_122 rfl (lv_at hl 2 rfl) ?_
                        refine va_get (D := D) (ci := 9) (v := .ref h2) (C := RX12) (T := TX12) (N := 11) hx hb hts in_X12_hold_X12 hown hE.1 hP 0 rfl rfl 6 (by decide +kernel) (hts (.fieldLink RX12 43 "ClauseBook" "worth" "LClauseBook$Worth;") (List.mem_of_getElem? (i := 7) rfl)) (fun _ h9 => h9) e0_6 dX12_hold_123 ?_
                        refine va_get (D := D) (ci := 8) (v := .ref p0) (C := RX11) (T := TX11) (N := 6) hx hb hts in_X12_hold_X11 hown hE.1 hP 2 rfl rfl 2 (by decide +kernel) (hts (.fieldLink RX12 202 "ClauseBook$Worth" "above" "[J") (List.mem_of_getElem? (i := 8) rfl)) (fun _ h9 => h9) rfl dX12_hold_126 ?_
                        refine lv_sipush (v := 675) hx hb dX12_hold_129 (by decide +kernel) ?_
                        refine va_lald hx hb hE.1 hP 3 1 rfl rfl (by unfold vp_in; decide) dX12_hold_132 ?_
                        refine lv_topl (fun z_237 ez_237 => ?_)
                        refine va_put (D := D) (ci := 3) (v := .long z_237) (ty := .long) (C := RX4) (T := TX4) (N := 4) hx hb hts in_X12_hold_X4 tyX4 tyX4_ok nmX4 hown hE.1 hP hD hS 8 rfl rfl 2 (by decide +kernel) (hts (.fieldLink RX12 365 "ClauseBook$Hand" "above" "J") (List.mem_of_getElem? (i := 9) rfl)) (fun _ h9 => h9) rfl (by decide +kernel) rfl rfl (Nat.le_of_ble_eq_true rfl) dX12_hold_133 (fun H locs hP hD hS => ?_)
                        obtain ⟨hP, hD⟩ := wPD [(h0, .inr (9, fs0)), (h1, .inr (1, fs1)), (h2, .inr (8, [v0, v1, .ref p0, .ref p1, v4, .int n])), (p0, .inl (T 1, 676, .inr (.inl f_235))), (p1, .inl (T 1, 676, .inr (.inl f_236))), (h3, .inl (T 7, 4, .inr (.inr (.inr (.inr (va_up (va_up (va_up (va_up (fun _ => none) 0 (some t0)) 1 (some t1)) 2 (some t2)) 3 (some t3))))))), (t0, .inr (3, [.int (jz 0), .int (jn 0), .long (ja 0), .long (jb 0)])), (t1, .inr (3, [.int (jz 1), .int (jn 1), .long (ja 1), .long (jb 1)])), (t2, .inr (3, [.int x2, .int (x3.toInt32), .long z_237, .long (jb 2)])), (t3, .inr (3, [.int (jz 3), .int (jn 3), .long (ja 3), .long (jb 3)]))] hP hD rfl
                        refine lv_aload hx hb dX12_hold_136 (lv_at hl 1 rfl) ?_
                        refine lv_aload_n hx hb dX12_hold_138 rfl (lv_at hl 2 rfl) ?_
                        refine va_get (D := D) (ci := 9) (v := .ref h2) (C := RX12) (T := TX12) (N := 11) hx hb hts in_X12_hold_X12 hown hE.1 hP 0 rfl rfl 6 (by decide +kernel) (hts (.fieldLink RX12 43 "ClauseBook" "worth" "LClauseBook$Worth;") (List.mem_of_getElem? (i := 7) rfl)) (fun _ h9 => h9) e0_6 dX12_hold_139 ?_
                        refine va_get (D := D) (ci := 8) (v := .ref p1) (C := RX11) (T := TX11) (N := 6) hx hb hts in_X12_hold_X11 hown hE.1 hP 2 rfl rfl 3 (by decide +kernel) (hts (.fieldLink RX12 206 "ClauseBook$Worth" "below" "[J") (List.mem_of_getElem? (i := 10) rfl)) (fun _ h9 => h9) rfl dX12_hold_142 ?_
                        refine lv_sipush (v := 675) hx hb dX12_hold_145 (by decide +kernel) ?_
                        refine va_lald hx hb hE.1 hP 4 1 rfl rfl (by unfold vp_in; decide) dX12_hold_148 ?_
                        refine lv_topl (fun z_238 ez_238 => ?_)
                        refine va_put (D := D) (ci := 3) (v := .long z_238) (ty := .long) (C := RX4) (T := TX4) (N := 4) hx hb hts in_X12_hold_X4 tyX4 tyX4_ok nmX4 hown hE.1 hP hD hS 8 rfl rfl 3 (by decide +kernel) (hts (.fieldLink RX12 368 "ClauseBook$Hand" "below" "J") (List.mem_of_getElem? (i := 11) rfl)) (fun _ h9 => h9) rfl (by decide +kernel) rfl rfl (Nat.le_of_ble_eq_true rfl) dX12_hold_149 (fun H locs hP hD hS => ?_)
                        obtain ⟨hP, hD⟩ := wPD [(h0, .inr (9, fs0)), (h1, .inr (1, fs1)), (h2, .inr (8, [v0, v1, .ref p0, .ref p1, v4, .int n])), (p0, .inl (T 1, 676, .inr (.inl f_235))), (p1, .inl (T 1, 676, .inr (.inl f_236))), (h3, .inl (T 7, 4, .inr (.inr (.inr (.inr (va_up (va_up (va_up (va_up (fun _ => none) 0 (some t0)) 1 (some t1)) 2 (some t2)) 3 (some t3))))))), (t0, .inr (3, [.int (jz 0), .int (jn 0), .long (ja 0), .long (jb 0)])), (t1, .inr (3, [.int (jz 1), .int (jn 1), .long (ja 1), .long (jb 1)])), (t2, .inr (3, [.int x2, .int (x3.toInt32), .long z_237, .long z_238])), (t3, .inr (3, [.int (jz 3), .int (jn 3), .long (ja 3), .long (jb 3)]))] hP hD rfl
                        refine lv_iload hx hb dX12_hold_152 (lv_at hl 0 rfl) ?_
                        exact W.iret hx hb hr (fun t ht hW => ⟨⟨_, (f_235, f_236, (fun k => [(jz 0), (jz 1), x2, (jz 3)].getD k 0), (fun k => [(jn 0), (jn 1), (x3.toInt32), (jn 3)].getD k 0), (fun k => [(ja 0), (ja 1), z_237, (ja 3)].getD k 0), (fun k => [(jb 0), (jb 1), z_238, (jb 3)].getD k 0)), rfl, (Or.inr ⟨⟨⟨by decide, by decide⟩, by omega, (fun h9 => by omega), (fun h9 => by omega)⟩, rfl, all4' ⟨(fun h9 => absurd h9 (by decide +kernel)), (fun _ => ⟨rfl, rfl⟩)⟩ ⟨(fun h9 => absurd h9 (by decide +kernel)), (fun _ => ⟨rfl, rfl⟩)⟩ ⟨(fun _ => ⟨rfl, (fun h9 => by first | rfl | (exfalso; omega))⟩), (fun h9 => absurd (by decide +kernel) h9)⟩ ⟨(fun h9 => absurd h9 (by decide +kernel)), (fun _ => ⟨rfl, rfl⟩)⟩⟩), by rw [ht]; exact hP.sub [0, 1, 2, 3, 4, 5, 6, 7, 8, 9] rfl, hD.sub [0, 1, 2, 3, 4, 5, 6, 7, 8, 9] (by decide +kernel) rfl⟩, hS.F ht⟩) hS.2.2 dX12_hold_154
                  · refine va_aldq hx hb hE.1 hP 5 7 rfl rfl (by unfold vp_in; decide) dX12_hold_74 ?_
                    refine W.eq (g2 := F0 m 75 ls [.ref t3]) rfl ?_
                    refine lv_astore (lv' := [(7, .ref t3), (0, .ref h0), (1, .int 3), (2, .int x2), (3, .long x3), (5, .long x4)]) hx hb dX12_hold_75 hl (by decide +kernel) rfl (fun ls hl => ?_)
                    refine lv_aload hx hb dX12_hold_77 (lv_at hl 0 rfl) ?_
                    refine va_get (D := D) (ci := 3) (v := .int (jz 3)) (C := RX4) (T := TX4) (N := 4) hx hb hts in_X12_hold_X4 hown hE.1 hP 9 rfl rfl 0 (by decide +kernel) (hts (.fieldLink RX12 359 "ClauseBook$Hand" "sort" "I") (List.mem_of_getElem? (i := 5) rfl)) (fun _ h9 => h9) rfl dX12_hold_79 ?_
                    refine lv_istore (lv' := [(8, .int (jz 3)), (7, .ref t3), (0, .ref h0), (1, .int 3), (2, .int x2), (3, .long x3), (5, .long x4)]) hx hb dX12_hold_82 hl (by decide +kernel) rfl (fun ls hl => ?_)
                    refine lv_aload hx hb dX12_hold_84 (lv_at hl 1 rfl) ?_
                    refine lv_iload_n hx hb dX12_hold_86 rfl (lv_at hl 4 rfl) ?_
                    refine va_put (D := D) (ci := 3) (v := .int x2) (ty := .int) (C := RX4) (T := TX4) (N := 4) hx hb hts in_X12_hold_X4 tyX4 tyX4_ok nmX4 hown hE.1 hP hD hS 9 rfl rfl 0 (by decide +kernel) (hts (.fieldLink RX12 359 "ClauseBook$Hand" "sort" "I") (List.mem_of_getElem? (i := 5) rfl)) (fun _ h9 => h9) rfl (by decide +kernel) rfl rfl (Nat.le_of_ble_eq_true rfl) dX12_hold_87 (fun H locs hP hD hS => ?_)
                    obtain ⟨hP, hD⟩ := wPD [(h0, .inr (9, fs0)), (h1, .inr (1, fs1)), (h2, .inr (8, [v0, v1, .ref p0, .ref p1, v4, .int n])), (p0, .inl (T 1, 676, .inr (.inl f0))), (p1, .inl (T 1, 676, .inr (.inl f1))), (h3, .inl (T 7, 4, .inr (.inr (.inr (.inr (va_up (va_up (va_up (va_up (fun _ => none) 0 (some t0)) 1 (some t1)) 2 (some t2)) 3 (some t3))))))), (t0, .inr (3, [.int (jz 0), .int (jn 0), .long (ja 0), .long (jb 0)])), (t1, .inr (3, [.int (jz 1), .int (jn 1), .long (ja 1), .long (jb 1)])), (t2, .inr (3, [.int (jz 2), .int (jn 2), .long (ja 2), .long (jb 2)])), (t3, .inr (3, [.int x2, .int (jn 3), .long (ja 3), .long (jb 3)]))] hP hD rfl
                    refine lv_iload_n hx hb dX12_hold_90 rfl (lv_at hl 4 rfl) ?_
                    refine lv_iconst (v := 1) hx hb dX12_hold_91 (by decide +kernel) ?_
                    refine lv_icmp_ne (tgt := 102) hx hb dX12_hold_92 (by decide +kernel) (fun c_239 => ?_) (fun c_239 => ?_)
                    · rw [fa_eq] at c_239
                      try rw [ti_1] at c_239
                      refine lv_iload_n hx hb dX12_hold_102 rfl (lv_at hl 4 rfl) ?_
                      refine lv_iconst (v := 2) hx hb dX12_hold_103 (by decide +kernel) ?_
                      refine lv_icmp_ne (tgt := 152) hx hb dX12_hold_104 (by decide +kernel) (fun c_240 => ?_) (fun c_240 => ?_)
                      · rw [fa_eq] at c_240
                        try rw [ti_2] at c_240
                        refine lv_iload hx hb dX12_hold_152 (lv_at hl 0 rfl) ?_
                        exact W.iret hx hb hr (fun t ht hW => ⟨⟨_, (f0, f1, (fun k => [(jz 0), (jz 1), (jz 2), x2].getD k 0), (fun k => [(jn 0), (jn 1), (jn 2), (jn 3)].getD k 0), (fun k => [(ja 0), (ja 1), (ja 2), (ja 3)].getD k 0), (fun k => [(jb 0), (jb 1), (jb 2), (jb 3)].getD k 0)), rfl, (Or.inr ⟨⟨⟨by decide, by decide⟩, by omega, (fun h9 => by omega), (fun h9 => by omega)⟩, rfl, all4' ⟨(fun h9 => absurd h9 (by decide +kernel)), (fun _ => ⟨rfl, rfl⟩)⟩ ⟨(fun h9 => absurd h9 (by decide +kernel)), (fun _ => ⟨rfl, rfl⟩)⟩ ⟨(fun h9 => absurd h9 (by decide +kernel)), (fun _ => ⟨rfl, rfl⟩)⟩ ⟨(fun _ => ⟨rfl, (fun h9 => by first | rfl | (exfalso; omega))⟩), (fun h9 => absurd (by decide +kernel) h9)⟩⟩), by rw [ht]; exact hP.sub [0, 1, 2, 3, 4, 5, 6, 7, 8, 9] rfl, hD.sub [0, 1, 2, 3, 4, 5, 6, 7, 8, 9] (by decide +kernel) rfl⟩, hS.F ht⟩) hS.2.2 dX12_hold_154
                      · rw [fa_eq] at c_240
                        try rw [ti_2] at c_240
                        refine lv_aload_n hx hb dX12_hold_107 rfl (lv_at hl 2 rfl) ?_
                        refine va_get (D := D) (ci := 9) (v := .ref h2) (C := RX12) (T := TX12) (N := 11) hx hb hts in_X12_hold_X12 hown hE.1 hP 0 rfl rfl 6 (by decide +kernel) (hts (.fieldLink RX12 43 "ClauseBook" "worth" "LClauseBook$Worth;") (List.mem_of_getElem? (i := 7) rfl)) (fun _ h9 => h9) e0_6 dX12_hold_108 ?_
                        refine lv_sipush (v := 675) hx hb dX12_hold_111 (by decide +kernel) ?_
                        refine lv_lload_n hx hb dX12_hold_114 rfl (lv_at hl 5 rfl) ?_
                        refine lv_lload hx hb dX12_hold_115 (lv_at hl 6 rfl) ?_
                        have hFc := va_free (wc := [(h2, .inr (8, [v0, v1, .ref p0, .ref p1, v4, .int n])), (p0, .inl (T 1, 676, .inr (.inl f0))), (p1, .inl (T 1, 676, .inr (.inl f1)))]) hD hS hA [2, 3, 4] rfl
                        refine va_callv (va_runV (As := [.int 675, .long x3, .long x4]) (rest := []) ⟨hx, hb, hml, hown, hts⟩ (c_X11_reduce l D T _ h2 p0 p1 (v0) (v1) (v4) n f0 f1 675 x3 x4 (by first | decide | omega)) (cwV 3 hts gX12_hold_X11_reduce rfl rfl rfl hv_X11_reduce ⟨Nat.le_of_ble_eq_true rfl, Nat.le_of_ble_eq_true rfl⟩) (pW_V (q := (RX11, TX11, 6)) (ci := 8) (q0 := 2) hP hE hD rfl rfl [2, 3, 4] (by decide +kernel) rfl rfl) rfl rfl hl.1 rfl (lv_room (Nat.le_of_ble_eq_true rfl)) dX12_hold_117 ⟨Nat.le_of_ble_eq_true rfl, Nat.le_of_ble_eq_true rfl⟩) hS (fun q _ h => hFc q h) hFc (fun u_242 t H1 locs ht hvm hr_241 hB hz1 hk1 hS => ?_)
                        obtain ⟨f_243, f_244⟩ := u_242
                        obtain ⟨hP1, hD1⟩ := hB
                        rw [ht] at hP1
                        obtain ⟨hP, hD⟩ := va_repl [(h0, .inr (9, fs0)), (h1, .inr (1, fs1)), (h2, .inr (8, [v0, v1, .ref p0, .ref p1, v4, .int n])), (p0, .inl (T 1, 676, .inr (.inl f_243))), (p1, .inl (T 1, 676, .inr (.inl f_244))), (h3, .inl (T 7, 4, .inr (.inr (.inr (.inr (va_up (va_up (va_up (va_up (fun _ => none) 0 (some t0)) 1 (some t1)) 2 (some t2)) 3 (some t3))))))), (t0, .inr (3, [.int (jz 0), .int (jn 0), .long (ja 0), .long (jb 0)])), (t1, .inr (3, [.int (jz 1), .int (jn 1), .long (ja 1), .long (jb 1)])), (t2, .inr (3, [.int (jz 2), .int (jn 2), .long (ja 2), .long (jb 2)])), (t3, .inr (3, [.int x2, .int (jn 3), .long (ja 3), .long (jb 3)]))] hP hD [2, 3, 4] [2, 3, 4] rfl (by decide +kernel) rfl rfl rfl hk1 hP1
                        clear hP1 hD1 hFc
                        generalize H1 = H at hP hS ⊢
                        refine lv_aload hx hb dX12_hold_120 (lv_at hl 1 rfl) ?_
                        refine lv_aload_n hx hb dX12_hold_122 rfl (lv_at hl 2 rfl) ?_
                        refine va_get (D := D) (ci := 9) (v := .ref h2) (C := RX12) (T := TX12) (N := 11) hx hb hts in_X12_hold_X12 hown hE.1 hP 0 rfl rfl 6 (by decide +kernel) (hts (.fieldLink RX12 43 "ClauseBook" "worth" "LClauseBook$Worth;") (List.mem_of_getElem? (i := 7) rfl)) (fun _ h9 => h9) e0_6 dX12_hold_123 ?_
                        refine va_get (D := D) (ci := 8) (v := .ref p0) (C := RX11) (T := TX11) (N := 6) hx hb hts in_X12_hold_X11 hown hE.1 hP 2 rfl rfl 2 (by decide +kernel) (hts (.fieldLink RX12 202 "ClauseBook$Worth" "above" "[J") (List.mem_of_getElem? (i := 8) rfl)) (fun _ h9 => h9) rfl dX12_hold_126 ?_
                        refine lv_sipush (v := 675) hx hb dX12_hold_129 (by decide +kernel) ?_
                        refine va_lald hx hb hE.1 hP 3 1 rfl rfl (by unfold vp_in; decide) dX12_hold_132 ?_
                        refine lv_topl (fun z_245 ez_245 => ?_)
                        refine va_put (D := D) (ci := 3) (v := .long z_245) (ty := .long) (C := RX4) (T := TX4) (N := 4) hx hb hts in_X12_hold_X4 tyX4 tyX4_ok nmX4 hown hE.1 hP hD hS 9 rfl rfl 2 (by decide +kernel) (hts (.fieldLink RX12 365 "ClauseBook$Hand" "above" "J") (List.mem_of_getElem? (i := 9) rfl)) (fun _ h9 => h9) rfl (by decide +kernel) rfl rfl (Nat.le_of_ble_eq_true rfl) dX12_hold_133 (fun H locs hP hD hS => ?_)
                        obtain ⟨hP, hD⟩ := wPD [(h0, .inr (9, fs0)), (h1, .inr (1, fs1)), (h2, .inr (8, [v0, v1, .ref p0, .ref p1, v4, .int n])), (p0, .inl (T 1, 676, .inr (.inl f_243))), (p1, .inl (T 1, 676, .inr (.inl f_244))), (h3, .inl (T 7, 4, .inr (.inr (.inr (.inr (va_up (va_up (va_up (va_up (fun _ => none) 0 (some t0)) 1 (some t1)) 2 (some t2)) 3 (some t3))))))), (t0, .inr (3, [.int (jz 0), .int (jn 0), .long (ja 0), .long (jb 0)])), (t1, .inr (3, [.int (jz 1), .int (jn 1), .long (ja 1), .long (jb 1)])), (t2, .inr (3, [.int (jz 2), .int (jn 2), .long (ja 2), .long (jb 2)])), (t3, .inr (3, [.int x2, .int (jn 3), .long z_245, .long (jb 3)]))] hP hD rfl
                        refine lv_aload hx hb dX12_hold_136 (lv_at hl 1 rfl) ?_
                        refine lv_aload_n hx hb dX12_hold_138 rfl (lv_at hl 2 rfl) ?_
                        refine va_get (D := D) (ci := 9) (v := .ref h2) (C := RX12) (T := TX12) (N := 11) hx hb hts in_X12_hold_X12 hown hE.1 hP 0 rfl rfl 6 (by decide +kernel) (hts (.fieldLink RX12 43 "ClauseBook" "worth" "LClauseBook$Worth;") (List.mem_of_getElem? (i := 7) rfl)) (fun _ h9 => h9) e0_6 dX12_hold_139 ?_
                        refine va_get (D := D) (ci := 8) (v := .ref p1) (C := RX11) (T := TX11) (N := 6) hx hb hts in_X12_hold_X11 hown hE.1 hP 2 rfl rfl 3 (by decide +kernel) (hts (.fieldLink RX12 206 "ClauseBook$Worth" "below" "[J") (List.mem_of_getElem? (i := 10) rfl)) (fun _ h9 => h9) rfl dX12_hold_142 ?_
                        refine lv_sipush (v := 675) hx hb dX12_hold_145 (by decide +kernel) ?_
                        refine va_lald hx hb hE.1 hP 4 1 rfl rfl (by unfold vp_in; decide) dX12_hold_148 ?_
                        refine lv_topl (fun z_246 ez_246 => ?_)
                        refine va_put (D := D) (ci := 3) (v := .long z_246) (ty := .long) (C := RX4) (T := TX4) (N := 4) hx hb hts in_X12_hold_X4 tyX4 tyX4_ok nmX4 hown hE.1 hP hD hS 9 rfl rfl 3 (by decide +kernel) (hts (.fieldLink RX12 368 "ClauseBook$Hand" "below" "J") (List.mem_of_getElem? (i := 11) rfl)) (fun _ h9 => h9) rfl (by decide +kernel) rfl rfl (Nat.le_of_ble_eq_true rfl) dX12_hold_149 (fun H locs hP hD hS => ?_)
                        obtain ⟨hP, hD⟩ := wPD [(h0, .inr (9, fs0)), (h1, .inr (1, fs1)), (h2, .inr (8, [v0, v1, .ref p0, .ref p1, v4, .int n])), (p0, .inl (T 1, 676, .inr (.inl f_243))), (p1, .inl (T 1, 676, .inr (.inl f_244))), (h3, .inl (T 7, 4, .inr (.inr (.inr (.inr (va_up (va_up (va_up (va_up (fun _ => none) 0 (some t0)) 1 (some t1)) 2 (some t2)) 3 (some t3))))))), (t0, .inr (3, [.int (jz 0), .int (jn 0), .long (ja 0), .long (jb 0)])), (t1, .inr (3, [.int (jz 1), .int (jn 1), .long (ja 1), .long (jb 1)])), (t2, .inr (3, [.int (jz 2), .int (jn 2), .long (ja 2), .long (jb 2)])), (t3, .inr (3, [.int x2, .int (jn 3), .long z_245, .long z_246]))] hP hD rfl
                        refine lv_iload hx hb dX12_hold_152 (lv_at hl 0 rfl) ?_
                        exact W.iret hx hb hr (fun t ht hW => ⟨⟨_, (f_243, f_244, (fun k => [(jz 0), (jz 1), (jz 2), x2].getD k 0), (fun k => [(jn 0), (jn 1), (jn 2), (jn 3)].getD k 0), (fun k => [(ja 0), (ja 1), (ja 2), z_245].getD k 0), (fun k => [(jb 0), (jb 1), (jb 2), z_246].getD k 0)), rfl, (Or.inr ⟨⟨⟨by decide, by decide⟩, by omega, (fun h9 => by omega), (fun h9 => by omega)⟩, rfl, all4' ⟨(fun h9 => absurd h9 (by decide +kernel)), (fun _ => ⟨rfl, rfl⟩)⟩ ⟨(fun h9 => absurd h9 (by decide +kernel)), (fun _ => ⟨rfl, rfl⟩)⟩ ⟨(fun h9 => absurd h9 (by decide +kernel)), (fun _ => ⟨rfl, rfl⟩)⟩ ⟨(fun _ => ⟨rfl, (fun h9 => by first | rfl | (exfalso; omega))⟩), (fun h9 => absurd (by decide +kernel) h9)⟩⟩), by rw [ht]; exact hP.sub [0, 1, 2, 3, 4, 5, 6, 7, 8, 9] rfl, hD.sub [0, 1, 2, 3, 4, 5, 6, 7, 8, 9] (by decide +kernel) rfl⟩, hS.F ht⟩) hS.2.2 dX12_hold_154
                    · rw [fa_eq] at c_239
                      try rw [ti_1] at c_239
                      refine lv_aload hx hb dX12_hold_95 (lv_at hl 1 rfl) ?_
                      refine lv_lload_n hx hb dX12_hold_97 rfl (lv_at hl 5 rfl) ?_
                      refine lv_l2i hx hb dX12_hold_98 rfl ?_
                      refine va_put (D := D) (ci := 3) (v := .int (x3.toInt32)) (ty := .int) (C := RX4) (T := TX4) (N := 4) hx hb hts in_X12_hold_X4 tyX4 tyX4_ok nmX4 hown hE.1 hP hD hS 9 rfl rfl 1 (by decide +kernel) (hts (.fieldLink RX12 360 "ClauseBook$Hand" "number" "I") (List.mem_of_getElem? (i := 6) rfl)) (fun _ h9 => h9) rfl (by decide +kernel) rfl rfl (Nat.le_of_ble_eq_true rfl) dX12_hold_99 (fun H locs hP hD hS => ?_)
                      obtain ⟨hP, hD⟩ := wPD [(h0, .inr (9, fs0)), (h1, .inr (1, fs1)), (h2, .inr (8, [v0, v1, .ref p0, .ref p1, v4, .int n])), (p0, .inl (T 1, 676, .inr (.inl f0))), (p1, .inl (T 1, 676, .inr (.inl f1))), (h3, .inl (T 7, 4, .inr (.inr (.inr (.inr (va_up (va_up (va_up (va_up (fun _ => none) 0 (some t0)) 1 (some t1)) 2 (some t2)) 3 (some t3))))))), (t0, .inr (3, [.int (jz 0), .int (jn 0), .long (ja 0), .long (jb 0)])), (t1, .inr (3, [.int (jz 1), .int (jn 1), .long (ja 1), .long (jb 1)])), (t2, .inr (3, [.int (jz 2), .int (jn 2), .long (ja 2), .long (jb 2)])), (t3, .inr (3, [.int x2, .int (x3.toInt32), .long (ja 3), .long (jb 3)]))] hP hD rfl
                      refine lv_iload_n hx hb dX12_hold_102 rfl (lv_at hl 4 rfl) ?_
                      refine lv_iconst (v := 2) hx hb dX12_hold_103 (by decide +kernel) ?_
                      refine lv_icmp_ne (tgt := 152) hx hb dX12_hold_104 (by decide +kernel) (fun c_247 => ?_) (fun c_247 => ?_)
                      · rw [fa_eq] at c_247
                        try rw [ti_2] at c_247
                        refine lv_iload hx hb dX12_hold_152 (lv_at hl 0 rfl) ?_
                        exact W.iret hx hb hr (fun t ht hW => ⟨⟨_, (f0, f1, (fun k => [(jz 0), (jz 1), (jz 2), x2].getD k 0), (fun k => [(jn 0), (jn 1), (jn 2), (x3.toInt32)].getD k 0), (fun k => [(ja 0), (ja 1), (ja 2), (ja 3)].getD k 0), (fun k => [(jb 0), (jb 1), (jb 2), (jb 3)].getD k 0)), rfl, (Or.inr ⟨⟨⟨by decide, by decide⟩, by omega, (fun h9 => by omega), (fun h9 => by omega)⟩, rfl, all4' ⟨(fun h9 => absurd h9 (by decide +kernel)), (fun _ => ⟨rfl, rfl⟩)⟩ ⟨(fun h9 => absurd h9 (by decide +kernel)), (fun _ => ⟨rfl, rfl⟩)⟩ ⟨(fun h9 => absurd h9 (by decide +kernel)), (fun _ => ⟨rfl, rfl⟩)⟩ ⟨(fun _ => ⟨rfl, (fun h9 => by first | rfl | (exfalso; omega))⟩), (fun h9 => absurd (by decide +kernel) h9)⟩⟩), by rw [ht]; exact hP.sub [0, 1, 2, 3, 4, 5, 6, 7, 8, 9] rfl, hD.sub [0, 1, 2, 3, 4, 5, 6, 7, 8, 9] (by decide +kernel) rfl⟩, hS.F ht⟩) hS.2.2 dX12_hold_154
                      · rw [fa_eq] at c_247
                        try rw [ti_2] at c_247
                        refine lv_aload_n hx hb dX12_hold_107 rfl (lv_at hl 2 rfl) ?_
                        refine va_get (D := D) (ci := 9) (v := .ref h2) (C := RX12) (T := TX12) (N := 11) hx hb hts in_X12_hold_X12 hown hE.1 hP 0 rfl rfl 6 (by decide +kernel) (hts (.fieldLink RX12 43 "ClauseBook" "worth" "LClauseBook$Worth;") (List.mem_of_getElem? (i := 7) rfl)) (fun _ h9 => h9) e0_6 dX12_hold_108 ?_
                        refine lv_sipush (v := 675) hx hb dX12_hold_111 (by decide +kernel) ?_
                        refine lv_lload_n hx hb dX12_hold_114 rfl (lv_at hl 5 rfl) ?_
                        refine lv_lload hx hb dX12_hold_115 (lv_at hl 6 rfl) ?_
                        have hFc := va_free (wc := [(h2, .inr (8, [v0, v1, .ref p0, .ref p1, v4, .int n])), (p0, .inl (T 1, 676, .inr (.inl f0))), (p1, .inl (T 1, 676, .inr (.inl f1)))]) hD hS hA [2, 3, 4] rfl
                        refine va_callv (va_runV (As := [.int 675, .long x3, .long x4]) (rest := []) ⟨hx, hb, hml, hown, hts⟩ (c_X11_reduce l D T _ h2 p0 p1 (v0) (v1) (v4) n f0 f1 675 x3 x4 (by first | decide | omega)) (cwV 3 hts gX12_hold_X11_reduce rfl rfl rfl hv_X11_reduce ⟨Nat.le_of_ble_eq_true rfl, Nat.le_of_ble_eq_true rfl⟩) (pW_V (q := (RX11, TX11, 6)) (ci := 8) (q0 := 2) hP hE hD rfl rfl [2, 3, 4] (by decide +kernel) rfl rfl) rfl rfl hl.1 rfl (lv_room (Nat.le_of_ble_eq_true rfl)) dX12_hold_117 ⟨Nat.le_of_ble_eq_true rfl, Nat.le_of_ble_eq_true rfl⟩) hS (fun q _ h => hFc q h) hFc (fun u_249 t H1 locs ht hvm hr_248 hB hz1 hk1 hS => ?_)
                        obtain ⟨f_250, f_251⟩ := u_249
                        obtain ⟨hP1, hD1⟩ := hB
                        rw [ht] at hP1
                        obtain ⟨hP, hD⟩ := va_repl [(h0, .inr (9, fs0)), (h1, .inr (1, fs1)), (h2, .inr (8, [v0, v1, .ref p0, .ref p1, v4, .int n])), (p0, .inl (T 1, 676, .inr (.inl f_250))), (p1, .inl (T 1, 676, .inr (.inl f_251))), (h3, .inl (T 7, 4, .inr (.inr (.inr (.inr (va_up (va_up (va_up (va_up (fun _ => none) 0 (some t0)) 1 (some t1)) 2 (some t2)) 3 (some t3))))))), (t0, .inr (3, [.int (jz 0), .int (jn 0), .long (ja 0), .long (jb 0)])), (t1, .inr (3, [.int (jz 1), .int (jn 1), .long (ja 1), .long (jb 1)])), (t2, .inr (3, [.int (jz 2), .int (jn 2), .long (ja 2), .long (jb 2)])), (t3, .inr (3, [.int x2, .int (x3.toInt32), .long (ja 3), .long (jb 3)]))] hP hD [2, 3, 4] [2, 3, 4] rfl (by decide +kernel) rfl rfl rfl hk1 hP1
                        clear hP1 hD1 hFc
                        generalize H1 = H at hP hS ⊢
                        refine lv_aload hx hb dX12_hold_120 (lv_at hl 1 rfl) ?_
                        refine lv_aload_n hx hb dX12_hold_122 rfl (lv_at hl 2 rfl) ?_
                        refine va_get (D := D) (ci := 9) (v := .ref h2) (C := RX12) (T := TX12) (N := 11) hx hb hts in_X12_hold_X12 hown hE.1 hP 0 rfl rfl 6 (by decide +kernel) (hts (.fieldLink RX12 43 "ClauseBook" "worth" "LClauseBook$Worth;") (List.mem_of_getElem? (i := 7) rfl)) (fun _ h9 => h9) e0_6 dX12_hold_123 ?_
                        refine va_get (D := D) (ci := 8) (v := .ref p0) (C := RX11) (T := TX11) (N := 6) hx hb hts in_X12_hold_X11 hown hE.1 hP 2 rfl rfl 2 (by decide +kernel) (hts (.fieldLink RX12 202 "ClauseBook$Worth" "above" "[J") (List.mem_of_getElem? (i := 8) rfl)) (fun _ h9 => h9) rfl dX12_hold_126 ?_
                        refine lv_sipush (v := 675) hx hb dX12_hold_129 (by decide +kernel) ?_
                        refine va_lald hx hb hE.1 hP 3 1 rfl rfl (by unfold vp_in; decide) dX12_hold_132 ?_
                        refine lv_topl (fun z_252 ez_252 => ?_)
                        refine va_put (D := D) (ci := 3) (v := .long z_252) (ty := .long) (C := RX4) (T := TX4) (N := 4) hx hb hts in_X12_hold_X4 tyX4 tyX4_ok nmX4 hown hE.1 hP hD hS 9 rfl rfl 2 (by decide +kernel) (hts (.fieldLink RX12 365 "ClauseBook$Hand" "above" "J") (List.mem_of_getElem? (i := 9) rfl)) (fun _ h9 => h9) rfl (by decide +kernel) rfl rfl (Nat.le_of_ble_eq_true rfl) dX12_hold_133 (fun H locs hP hD hS => ?_)
                        obtain ⟨hP, hD⟩ := wPD [(h0, .inr (9, fs0)), (h1, .inr (1, fs1)), (h2, .inr (8, [v0, v1, .ref p0, .ref p1, v4, .int n])), (p0, .inl (T 1, 676, .inr (.inl f_250))), (p1, .inl (T 1, 676, .inr (.inl f_251))), (h3, .inl (T 7, 4, .inr (.inr (.inr (.inr (va_up (va_up (va_up (va_up (fun _ => none) 0 (some t0)) 1 (some t1)) 2 (some t2)) 3 (some t3))))))), (t0, .inr (3, [.int (jz 0), .int (jn 0), .long (ja 0), .long (jb 0)])), (t1, .inr (3, [.int (jz 1), .int (jn 1), .long (ja 1), .long (jb 1)])), (t2, .inr (3, [.int (jz 2), .int (jn 2), .long (ja 2), .long (jb 2)])), (t3, .inr (3, [.int x2, .int (x3.toInt32), .long z_252, .long (jb 3)]))] hP hD rfl
                        refine lv_aload hx hb dX12_hold_136 (lv_at hl 1 rfl) ?_
                        refine lv_aload_n hx hb dX12_hold_138 rfl (lv_at hl 2 rfl) ?_
                        refine va_get (D := D) (ci := 9) (v := .ref h2) (C := RX12) (T := TX12) (N := 11) hx hb hts in_X12_hold_X12 hown hE.1 hP 0 rfl rfl 6 (by decide +kernel) (hts (.fieldLink RX12 43 "ClauseBook" "worth" "LClauseBook$Worth;") (List.mem_of_getElem? (i := 7) rfl)) (fun _ h9 => h9) e0_6 dX12_hold_139 ?_
                        refine va_get (D := D) (ci := 8) (v := .ref p1) (C := RX11) (T := TX11) (N := 6) hx hb hts in_X12_hold_X11 hown hE.1 hP 2 rfl rfl 3 (by decide +kernel) (hts (.fieldLink RX12 206 "ClauseBook$Worth" "below" "[J") (List.mem_of_getElem? (i := 10) rfl)) (fun _ h9 => h9) rfl dX12_hold_142 ?_
                        refine lv_sipush (v := 675) hx hb dX12_hold_145 (by decide +kernel) ?_
                        refine va_lald hx hb hE.1 hP 4 1 rfl rfl (by unfold vp_in; decide) dX12_hold_148 ?_
                        refine lv_topl (fun z_253 ez_253 => ?_)
                        refine va_put (D := D) (ci := 3) (v := .long z_253) (ty := .long) (C := RX4) (T := TX4) (N := 4) hx hb hts in_X12_hold_X4 tyX4 tyX4_ok nmX4 hown hE.1 hP hD hS 9 rfl rfl 3 (by decide +kernel) (hts (.fieldLink RX12 368 "ClauseBook$Hand" "below" "J") (List.mem_of_getElem? (i := 11) rfl)) (fun _ h9 => h9) rfl (by decide +kernel) rfl rfl (Nat.le_of_ble_eq_true rfl) dX12_hold_149 (fun H locs hP hD hS => ?_)
                        obtain ⟨hP, hD⟩ := wPD [(h0, .inr (9, fs0)), (h1, .inr (1, fs1)), (h2, .inr (8, [v0, v1, .ref p0, .ref p1, v4, .int n])), (p0, .inl (T 1, 676, .inr (.inl f_250))), (p1, .inl (T 1, 676, .inr (.inl f_251))), (h3, .inl (T 7, 4, .inr (.inr (.inr (.inr (va_up (va_up (va_up (va_up (fun _ => none) 0 (some t0)) 1 (some t1)) 2 (some t2)) 3 (some t3))))))), (t0, .inr (3, [.int (jz 0), .int (jn 0), .long (ja 0), .long (jb 0)])), (t1, .inr (3, [.int (jz 1), .int (jn 1), .long (ja 1), .long (jb 1)])), (t2, .inr (3, [.int (jz 2), .int (jn 2), .long (ja 2), .long (jb 2)])), (t3, .inr (3, [.int x2, .int (x3.toInt32), .long z_252, .long z_253]))] hP hD rfl
                        refine lv_iload hx hb dX12_hold_152 (lv_at hl 0 rfl) ?_
                        exact W.iret hx hb hr (fun t ht hW => ⟨⟨_, (f_250, f_251, (fun k => [(jz 0), (jz 1), (jz 2), x2].getD k 0), (fun k => [(jn 0), (jn 1), (jn 2), (x3.toInt32)].getD k 0), (fun k => [(ja 0), (ja 1), (ja 2), z_252].getD k 0), (fun k => [(jb 0), (jb 1), (jb 2), z_253].getD k 0)), rfl, (Or.inr ⟨⟨⟨by decide, by decide⟩, by omega, (fun h9 => by omega), (fun h9 => by omega)⟩, rfl, all4' ⟨(fun h9 => absurd h9 (by decide +kernel)), (fun _ => ⟨rfl, rfl⟩)⟩ ⟨(fun h9 => absurd h9 (by decide +kernel)), (fun _ => ⟨rfl, rfl⟩)⟩ ⟨(fun h9 => absurd h9 (by decide +kernel)), (fun _ => ⟨rfl, rfl⟩)⟩ ⟨(fun _ => ⟨rfl, (fun h9 => by first | rfl | (exfalso; omega))⟩), (fun h9 => absurd (by decide +kernel) h9)⟩⟩), by rw [ht]; exact hP.sub [0, 1, 2, 3, 4, 5, 6, 7, 8, 9] rfl, hD.sub [0, 1, 2, 3, 4, 5, 6, 7, 8, 9] (by decide +kernel) rfl⟩, hS.F ht⟩) hS.2.2 dX12_hold_154
                · rw [lcmp_eq] at c_193
                  try rw [tl_min] at c_193
                  refine lv_bipush (v := (-2)) hx hb dX12_hold_66 (by decide +kernel) ?_
                  exact W.iret hx hb hr (fun t ht hW => ⟨⟨_, (f0, f1, (fun k => [(jz 0), (jz 1), (jz 2), (jz 3)].getD k 0), (fun k => [(jn 0), (jn 1), (jn 2), (jn 3)].getD k 0), (fun k => [(ja 0), (ja 1), (ja 2), (ja 3)].getD k 0), (fun k => [(jb 0), (jb 1), (jb 2), (jb 3)].getD k 0)), rfl, (Or.inl ⟨(fun h9 => by obtain ⟨h1, h2, h3, h4⟩ := h9; first | (clear h3 h4; omega) | (have h5 := h3 (by clear h3 h4; omega); clear h3 h4; omega) | (have h5 := h4 (by clear h3 h4; omega); clear h3 h4; omega)), (by decide +kernel), all4' ⟨rfl, rfl⟩ ⟨rfl, rfl⟩ ⟨rfl, rfl⟩ ⟨rfl, rfl⟩⟩), by rw [ht]; exact hP.sub [0, 1, 2, 3, 4, 5, 6, 7, 8, 9] rfl, hD.sub [0, 1, 2, 3, 4, 5, 6, 7, 8, 9] (by decide +kernel) rfl⟩, hS.F ht⟩) hS.2.2 dX12_hold_68
          · rw [lcmp_lt] at c_130
            try rw [((Int32.toInt_toInt64 _).trans rfl)] at c_130
            refine lv_bipush (v := (-2)) hx hb dX12_hold_43 (by decide +kernel) ?_
            exact W.iret hx hb hr (fun t ht hW => ⟨⟨_, (f0, f1, (fun k => [(jz 0), (jz 1), (jz 2), (jz 3)].getD k 0), (fun k => [(jn 0), (jn 1), (jn 2), (jn 3)].getD k 0), (fun k => [(ja 0), (ja 1), (ja 2), (ja 3)].getD k 0), (fun k => [(jb 0), (jb 1), (jb 2), (jb 3)].getD k 0)), rfl, (Or.inl ⟨(fun h9 => by obtain ⟨h1, h2, h3, h4⟩ := h9; first | (clear h3 h4; omega) | (have h5 := h3 (by clear h3 h4; omega); clear h3 h4; omega) | (have h5 := h4 (by clear h3 h4; omega); clear h3 h4; omega)), (by decide +kernel), all4' ⟨rfl, rfl⟩ ⟨rfl, rfl⟩ ⟨rfl, rfl⟩ ⟨rfl, rfl⟩⟩), by rw [ht]; exact hP.sub [0, 1, 2, 3, 4, 5, 6, 7, 8, 9] rfl, hD.sub [0, 1, 2, 3, 4, 5, 6, 7, 8, 9] (by decide +kernel) rfl⟩, hS.F ht⟩) hS.2.2 dX12_hold_45
    · refine lv_if_ne (tgt := 19) hx hb dX12_hold_13 (by decide +kernel) (fun c9 => absurd c9 (by decide +kernel)) (fun _ => ?_)
      refine lv_bipush (v := (-2)) hx hb dX12_hold_16 (by decide +kernel) ?_
      exact W.iret hx hb hr (fun t ht hW => ⟨⟨_, (f0, f1, (fun k => [(jz 0), (jz 1), (jz 2), (jz 3)].getD k 0), (fun k => [(jn 0), (jn 1), (jn 2), (jn 3)].getD k 0), (fun k => [(ja 0), (ja 1), (ja 2), (ja 3)].getD k 0), (fun k => [(jb 0), (jb 1), (jb 2), (jb 3)].getD k 0)), rfl, (Or.inl ⟨(fun h9 => by obtain ⟨h1, h2, h3, h4⟩ := h9; first | (clear h3 h4; omega) | (have h5 := h3 (by clear h3 h4; omega); clear h3 h4; omega) | (have h5 := h4 (by clear h3 h4; omega); clear h3 h4; omega)), (by decide +kernel), all4' ⟨rfl, rfl⟩ ⟨rfl, rfl⟩ ⟨rfl, rfl⟩ ⟨rfl, rfl⟩⟩), by rw [ht]; exact hP.sub [0, 1, 2, 3, 4, 5, 6, 7, 8, 9] rfl, hD.sub [0, 1, 2, 3, 4, 5, 6, 7, 8, 9] (by decide +kernel) rfl⟩, hS.F ht⟩) hS.2.2 dX12_hold_18
  · refine lv_if_eq (tgt := 16) hx hb dX12_hold_4 (by decide +kernel) (fun _ => ?_) (fun c9 => absurd c9 (by decide +kernel))
    refine lv_bipush (v := (-2)) hx hb dX12_hold_16 (by decide +kernel) ?_
    exact W.iret hx hb hr (fun t ht hW => ⟨⟨_, (f0, f1, (fun k => [(jz 0), (jz 1), (jz 2), (jz 3)].getD k 0), (fun k => [(jn 0), (jn 1), (jn 2), (jn 3)].getD k 0), (fun k => [(ja 0), (ja 1), (ja 2), (ja 3)].getD k 0), (fun k => [(jb 0), (jb 1), (jb 2), (jb 3)].getD k 0)), rfl, (Or.inl ⟨(fun h9 => by obtain ⟨h1, h2, h3, h4⟩ := h9; first | (clear h3 h4; omega) | (have h5 := h3 (by clear h3 h4; omega); clear h3 h4; omega) | (have h5 := h4 (by clear h3 h4; omega); clear h3 h4; omega)), (by decide +kernel), all4' ⟨rfl, rfl⟩ ⟨rfl, rfl⟩ ⟨rfl, rfl⟩ ⟨rfl, rfl⟩⟩), by rw [ht]; exact hP.sub [0, 1, 2, 3, 4, 5, 6, 7, 8, 9] rfl, hD.sub [0, 1, 2, 3, 4, 5, 6, 7, 8, 9] (by decide +kernel) rfl⟩, hS.F ht⟩) hS.2.2 dX12_hold_18
