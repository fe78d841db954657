theorem hh_up {fs : Nat → Int32} {g : Nat → Int64} {x t : Int32} {z : Int64} (h : ∀ k : Nat, k < 4 → (fs k).toInt = 2 → 1 ≤ (g k).toInt) (hz : t.toInt = 2 → 1 ≤ z.toInt) : ∀ k : Nat, k < 4 → (upd fs x.toNatClampNeg t k).toInt = 2 → 1 ≤ (vp_updL g x.toNatClampNeg z k).toInt := by
  intro k hk
  simp only [upd, vp_updL]
  by_cases e : k = x.toNatClampNeg
  · simp only [if_pos e]; exact hz
  · simp only [if_neg e]; exact h k hk
theorem dX13_lacks_0 : decode cX13_lacks 0 = .ok (.aload_n 0, 1) := by decide +kernel
theorem dX13_lacks_1 : decode cX13_lacks 1 = .ok (.getfield 117, 3) := by decide +kernel
theorem dX13_lacks_11 : decode cX13_lacks 11 = .ok (.goto 19, 3) := by decide +kernel
theorem dX13_lacks_14 : decode cX13_lacks 14 = .ok (.aload_n 0, 1) := by decide +kernel
theorem dX13_lacks_15 : decode cX13_lacks 15 = .ok (.getfield 117, 3) := by decide +kernel
theorem dX13_lacks_18 : decode cX13_lacks 18 = .ok (.iload_n 1, 1) := by decide +kernel
theorem dX13_lacks_19 : decode cX13_lacks 19 = .ok (.iaload, 1) := by decide +kernel
theorem dX13_lacks_20 : decode cX13_lacks 20 = .ok (.iload_n 2, 1) := by decide +kernel
theorem dX13_lacks_21 : decode cX13_lacks 21 = .ok (.if_icmp .ne 7, 3) := by decide +kernel
theorem dX13_lacks_24 : decode cX13_lacks 24 = .ok (.iconst 0, 1) := by decide +kernel
theorem dX13_lacks_25 : decode cX13_lacks 25 = .ok (.goto 5, 3) := by decide +kernel
theorem dX13_lacks_28 : decode cX13_lacks 28 = .ok (.bipush (-13), 2) := by decide +kernel
theorem dX13_lacks_30 : decode cX13_lacks 30 = .ok (.ireturn, 1) := by decide +kernel
theorem dX13_lacks_4 : decode cX13_lacks 4 = .ok (.iload_n 1, 1) := by decide +kernel
theorem dX13_lacks_5 : decode cX13_lacks 5 = .ok (.iaload, 1) := by decide +kernel
theorem dX13_lacks_6 : decode cX13_lacks 6 = .ok (.ifCond .ne 8, 3) := by decide +kernel
theorem dX13_lacks_9 : decode cX13_lacks 9 = .ok (.bipush (-11), 2) := by decide +kernel
set_option maxRecDepth 20000 in
theorem in_X13_lacks_X13 : ∀ w ∈ wsX130, w ∈ wsX13_lacks := sub_r [2, 3, 4, 5, 6, 7, 8, 9, 10, 11, 12, 13, 14, 15, 16, 17, 18, 19, 20, 21, 22, 23, 24, 25, 26, 27, 28, 29, 30, 31, 32, 33, 34, 35, 36, 37, 38, 39, 40, 41, 42, 43, 44, 45, 46] rfl
set_option maxHeartbeats 4000000 in
set_option maxRecDepth 100000 in
theorem c_X13_lacks (l : Launch) (D : va_G) (T : Nat → ClassId) (h0 : Nat) (fs0 : List Value) (h1 : Nat) (f1 : Nat → Int32) (x1 : Int32) (x2 : Int32) (e0_38 : fs0[38]? = some (.ref h1)) (hx : 0 ≤ x1.toInt ∧ x1.toInt ≤ 3) : Met l yX13_lacks wsX13_lacks ({ frames := 0, cells := 0, slots := 0, locals := 0 }) (pR [.ref h0, .int x1, .int x2] D T [(h0, .inr (10, fs0)), (h1, .inl (T 0, 4, .inl f1))]) (vp_Si (fun r => (r.toInt = 0 → (f1 (x1.toNatClampNeg)).toInt = x2.toInt) ∧ (((f1 (x1.toNatClampNeg)).toInt = 0 ∧ r.toInt = -11) ∨ (¬ (f1 (x1.toNatClampNeg)).toInt = 0 ∧ (f1 (x1.toNatClampNeg)).toInt = x2.toInt ∧ r.toInt = 0) ∨ (¬ (f1 (x1.toNatClampNeg)).toInt = 0 ∧ ¬ (f1 (x1.toNatClampNeg)).toInt = x2.toInt ∧ r.toInt = -13)))) 0 0 (fun _ => False) := by
  refine Met.ofW (cc := cX13_lacks) (maxL := 3) (ret := (some .int)) (by decide +kernel) rfl ?_
  intro p e s m args below meth c s₁ B hml hv
  obtain ⟨rfl, hP, hE⟩ := hv
  have hx := B.exec
  have hb := B.bytes
  have hr := B.returns
  have hts := atoms_spec (ws := wsX13_lacks) B.pre
  have hown : s.vm.findClass RX13 = some m.cls := findClass_of_methodNamed B.named
  have hlocks := B.notSynchronized
  have hP : va_P D vwCl [(h0, .inr (10, fs0)), (h1, .inl (T 0, 4, .inl f1))] s.heap := hP
  have hl := lv_entry ([.ref h0, .int x1, .int x2]) (n := 3) (Nat.le_of_ble_eq_true rfl)
  rw [lg_entry_eq]
  generalize (lg_sl ([.ref h0, .int x1, .int x2]) ++ List.replicate (3 - (lg_sl ([.ref h0, .int x1, .int x2])).length) Slot.unset).toArray = ls at hl ⊢
  have hl : lv_has ls 3 [(0, .ref h0), (1, .int x1), (2, .int x2)] := hl
  refine lv_aload_n hx hb dX13_lacks_0 rfl (lv_at hl 0 rfl) ?_
  refine va_get (D := D) (ci := 10) (v := .ref h1) (C := RX13) (T := TX13) (N := 45) hx hb hts in_X13_lacks_X13 hown hE.1 hP 0 rfl rfl 38 (by decide +kernel) (hts (.fieldLink RX13 117 "ClauseBookModel" "handSort" "[I") (List.mem_of_getElem? (i := 1) rfl)) (fun _ h9 => h9) e0_38 dX13_lacks_1 ?_
  refine lv_iload_n hx hb dX13_lacks_4 rfl (lv_at hl 1 rfl) ?_
  refine va_iald hx hb hE.1 hP 1 0 rfl rfl (by rw [vp_in_iff]; first | omega | (subst_vars; omega)) dX13_lacks_5 ?_
  refine lv_topi (fun z_1 ez_1 => ?_)
  have htz_1 : z_1.toInt = (f1 (x1.toNatClampNeg)).toInt := by rw [ez_1]
  refine lv_if_ne (tgt := 14) hx hb dX13_lacks_6 (by decide +kernel) (fun c_2 => ?_) (fun c_2 => ?_)
  · rw [fa_eq] at c_2
    try rw [ti_0] at c_2
    refine lv_aload_n hx hb dX13_lacks_14 rfl (lv_at hl 0 rfl) ?_
    refine va_get (D := D) (ci := 10) (v := .ref h1) (C := RX13) (T := TX13) (N := 45) hx hb hts in_X13_lacks_X13 hown hE.1 hP 0 rfl rfl 38 (by decide +kernel) (hts (.fieldLink RX13 117 "ClauseBookModel" "handSort" "[I") (List.mem_of_getElem? (i := 1) rfl)) (fun _ h9 => h9) e0_38 dX13_lacks_15 ?_
    refine lv_iload_n hx hb dX13_lacks_18 rfl (lv_at hl 1 rfl) ?_
    refine va_iald hx hb hE.1 hP 1 0 rfl rfl (by rw [vp_in_iff]; first | omega | (subst_vars; omega)) dX13_lacks_19 ?_
    refine lv_topi (fun z_3 ez_3 => ?_)
    have htz_3 : z_3.toInt = (f1 (x1.toNatClampNeg)).toInt := by rw [ez_3]
    refine lv_iload_n hx hb dX13_lacks_20 rfl (lv_at hl 2 rfl) ?_
    refine lv_icmp_ne (tgt := 28) hx hb dX13_lacks_21 (by decide +kernel) (fun c_4 => ?_) (fun c_4 => ?_)
    · rw [fa_eq] at c_4
      refine lv_bipush (v := (-13)) hx hb dX13_lacks_28 (by decide +kernel) ?_
      exact W.iret hx hb hr (fun t ht hW => ⟨_, rfl, ⟨(fun h9 => absurd h9 (by decide +kernel)), (by have h9r : ((-13) : Int32).toInt = -13 := (by decide +kernel); omega)⟩, ht⟩) (fun _ h => by cases h) dX13_lacks_30
    · rw [fa_eq] at c_4
      refine lv_iconst (v := 0) hx hb dX13_lacks_24 (by decide +kernel) ?_
      refine lv_goto (tgt := 30) hx hb dX13_lacks_25 (by decide +kernel) ?_
      exact W.iret hx hb hr (fun t ht hW => ⟨_, rfl, ⟨(fun _ => by omega), (by have h9r : (0 : Int32).toInt = 0 := (by decide +kernel); omega)⟩, ht⟩) (fun _ h => by cases h) dX13_lacks_30
  · rw [fa_eq] at c_2
    try rw [ti_0] at c_2
    refine lv_bipush (v := (-11)) hx hb dX13_lacks_9 (by decide +kernel) ?_
    refine lv_goto (tgt := 30) hx hb dX13_lacks_11 (by decide +kernel) ?_
    exact W.iret hx hb hr (fun t ht hW => ⟨_, rfl, ⟨(fun h9 => absurd h9 (by decide +kernel)), (by have h9r : ((-11) : Int32).toInt = -11 := (by decide +kernel); omega)⟩, ht⟩) (fun _ h => by cases h) dX13_lacks_30
theorem l_div1 (x : Int64) : x / 1 = x := by
  refine Int64.toInt_inj.1 ?_
  rw [l_div (by decide +kernel)]
  exact Int.tdiv_one _
theorem dX13_hold_0 : decode cX13_hold 0 = .ok (.iload_n 1, 1) := by decide +kernel
theorem dX13_hold_1 : decode cX13_hold 1 = .ok (.invokestatic 417, 3) := by decide +kernel
theorem dX13_hold_10 : decode cX13_hold 10 = .ok (.ldc2_w 184, 3) := by decide +kernel
theorem dX13_hold_100 : decode cX13_hold 100 = .ok (.lload 8, 2) := by decide +kernel
theorem dX13_hold_102 : decode cX13_hold 102 = .ok (.ldiv, 1) := by decide +kernel
theorem dX13_hold_103 : decode cX13_hold 103 = .ok (.lastore, 1) := by decide +kernel
theorem dX13_hold_104 : decode cX13_hold 104 = .ok (.aload_n 0, 1) := by decide +kernel
theorem dX13_hold_105 : decode cX13_hold 105 = .ok (.getfield 123, 3) := by decide +kernel
theorem dX13_hold_108 : decode cX13_hold 108 = .ok (.iload_n 1, 1) := by decide +kernel
theorem dX13_hold_109 : decode cX13_hold 109 = .ok (.iload_n 2, 1) := by decide +kernel
theorem dX13_hold_110 : decode cX13_hold 110 = .ok (.iconst 2, 1) := by decide +kernel
theorem dX13_hold_111 : decode cX13_hold 111 = .ok (.if_icmp .ne 11, 3) := by decide +kernel
theorem dX13_hold_114 : decode cX13_hold 114 = .ok (.lload 5, 2) := by decide +kernel
theorem dX13_hold_116 : decode cX13_hold 116 = .ok (.lload 8, 2) := by decide +kernel
theorem dX13_hold_118 : decode cX13_hold 118 = .ok (.ldiv, 1) := by decide +kernel
theorem dX13_hold_119 : decode cX13_hold 119 = .ok (.goto 4, 3) := by decide +kernel
theorem dX13_hold_122 : decode cX13_hold 122 = .ok (.lconst 1, 1) := by decide +kernel
theorem dX13_hold_123 : decode cX13_hold 123 = .ok (.lastore, 1) := by decide +kernel
theorem dX13_hold_124 : decode cX13_hold 124 = .ok (.iload 7, 2) := by decide +kernel
theorem dX13_hold_126 : decode cX13_hold 126 = .ok (.ireturn, 1) := by decide +kernel
theorem dX13_hold_13 : decode cX13_hold 13 = .ok (.invokestatic 175, 3) := by decide +kernel
theorem dX13_hold_16 : decode cX13_hold 16 = .ok (.ifCond .eq 43, 3) := by decide +kernel
theorem dX13_hold_19 : decode cX13_hold 19 = .ok (.iload_n 2, 1) := by decide +kernel
theorem dX13_hold_20 : decode cX13_hold 20 = .ok (.iconst 1, 1) := by decide +kernel
theorem dX13_hold_21 : decode cX13_hold 21 = .ok (.if_icmp .ne 18, 3) := by decide +kernel
theorem dX13_hold_24 : decode cX13_hold 24 = .ok (.lload_n 3, 1) := by decide +kernel
theorem dX13_hold_25 : decode cX13_hold 25 = .ok (.lconst 0, 1) := by decide +kernel
theorem dX13_hold_26 : decode cX13_hold 26 = .ok (.aload_n 0, 1) := by decide +kernel
theorem dX13_hold_27 : decode cX13_hold 27 = .ok (.getfield 205, 3) := by decide +kernel
theorem dX13_hold_30 : decode cX13_hold 30 = .ok (.iconst 1, 1) := by decide +kernel
theorem dX13_hold_31 : decode cX13_hold 31 = .ok (.isub, 1) := by decide +kernel
theorem dX13_hold_32 : decode cX13_hold 32 = .ok (.i2l, 1) := by decide +kernel
theorem dX13_hold_33 : decode cX13_hold 33 = .ok (.invokestatic 175, 3) := by decide +kernel
theorem dX13_hold_36 : decode cX13_hold 36 = .ok (.ifCond .eq 23, 3) := by decide +kernel
theorem dX13_hold_39 : decode cX13_hold 39 = .ok (.iload_n 2, 1) := by decide +kernel
theorem dX13_hold_4 : decode cX13_hold 4 = .ok (.ifCond .eq 55, 3) := by decide +kernel
theorem dX13_hold_40 : decode cX13_hold 40 = .ok (.iconst 2, 1) := by decide +kernel
theorem dX13_hold_41 : decode cX13_hold 41 = .ok (.if_icmp .ne 21, 3) := by decide +kernel
theorem dX13_hold_44 : decode cX13_hold 44 = .ok (.lload 5, 2) := by decide +kernel
theorem dX13_hold_46 : decode cX13_hold 46 = .ok (.lconst 1, 1) := by decide +kernel
theorem dX13_hold_47 : decode cX13_hold 47 = .ok (.lcmp, 1) := by decide +kernel
theorem dX13_hold_48 : decode cX13_hold 48 = .ok (.ifCond .lt 11, 3) := by decide +kernel
theorem dX13_hold_51 : decode cX13_hold 51 = .ok (.lload_n 3, 1) := by decide +kernel
theorem dX13_hold_52 : decode cX13_hold 52 = .ok (.ldc2_w 139, 3) := by decide +kernel
theorem dX13_hold_55 : decode cX13_hold 55 = .ok (.lcmp, 1) := by decide +kernel
theorem dX13_hold_56 : decode cX13_hold 56 = .ok (.ifCond .ne 6, 3) := by decide +kernel
theorem dX13_hold_59 : decode cX13_hold 59 = .ok (.bipush (-2), 2) := by decide +kernel
theorem dX13_hold_61 : decode cX13_hold 61 = .ok (.ireturn, 1) := by decide +kernel
theorem dX13_hold_62 : decode cX13_hold 62 = .ok (.aload_n 0, 1) := by decide +kernel
theorem dX13_hold_63 : decode cX13_hold 63 = .ok (.getfield 117, 3) := by decide +kernel
theorem dX13_hold_66 : decode cX13_hold 66 = .ok (.iload_n 1, 1) := by decide +kernel
theorem dX13_hold_67 : decode cX13_hold 67 = .ok (.iaload, 1) := by decide +kernel
theorem dX13_hold_68 : decode cX13_hold 68 = .ok (.istore 7, 2) := by decide +kernel
theorem dX13_hold_7 : decode cX13_hold 7 = .ok (.iload_n 2, 1) := by decide +kernel
theorem dX13_hold_70 : decode cX13_hold 70 = .ok (.iload_n 2, 1) := by decide +kernel
theorem dX13_hold_71 : decode cX13_hold 71 = .ok (.iconst 2, 1) := by decide +kernel
theorem dX13_hold_72 : decode cX13_hold 72 = .ok (.if_icmp .ne 12, 3) := by decide +kernel
theorem dX13_hold_75 : decode cX13_hold 75 = .ok (.lload_n 3, 1) := by decide +kernel
theorem dX13_hold_76 : decode cX13_hold 76 = .ok (.lload 5, 2) := by decide +kernel
theorem dX13_hold_78 : decode cX13_hold 78 = .ok (.invokestatic 141, 3) := by decide +kernel
theorem dX13_hold_8 : decode cX13_hold 8 = .ok (.i2l, 1) := by decide +kernel
theorem dX13_hold_81 : decode cX13_hold 81 = .ok (.goto 4, 3) := by decide +kernel
theorem dX13_hold_84 : decode cX13_hold 84 = .ok (.lconst 1, 1) := by decide +kernel
theorem dX13_hold_85 : decode cX13_hold 85 = .ok (.lstore 8, 2) := by decide +kernel
theorem dX13_hold_87 : decode cX13_hold 87 = .ok (.aload_n 0, 1) := by decide +kernel
theorem dX13_hold_88 : decode cX13_hold 88 = .ok (.getfield 117, 3) := by decide +kernel
theorem dX13_hold_9 : decode cX13_hold 9 = .ok (.lconst 0, 1) := by decide +kernel
theorem dX13_hold_91 : decode cX13_hold 91 = .ok (.iload_n 1, 1) := by decide +kernel
theorem dX13_hold_92 : decode cX13_hold 92 = .ok (.iload_n 2, 1) := by decide +kernel
theorem dX13_hold_93 : decode cX13_hold 93 = .ok (.iastore, 1) := by decide +kernel
theorem dX13_hold_94 : decode cX13_hold 94 = .ok (.aload_n 0, 1) := by decide +kernel
theorem dX13_hold_95 : decode cX13_hold 95 = .ok (.getfield 120, 3) := by decide +kernel
theorem dX13_hold_98 : decode cX13_hold 98 = .ok (.iload_n 1, 1) := by decide +kernel
theorem dX13_hold_99 : decode cX13_hold 99 = .ok (.lload_n 3, 1) := by decide +kernel
set_option maxRecDepth 20000 in
theorem ggX13_hold_X13_divisor : GoodIn wsX13_hold wsX13_divisor := goodIn_r _ [17] rfl (by decide +kernel)
set_option maxRecDepth 20000 in
theorem ggX13_hold_X13_in : GoodIn wsX13_hold wsX13_in := goodIn_r _ [14] rfl (by decide +kernel)
set_option maxRecDepth 20000 in
theorem ggX13_hold_X13_isHand : GoodIn wsX13_hold wsX13_isHand := goodIn_r _ [10, 11, 12, 13, 9, 14] rfl (by decide +kernel)
set_option maxRecDepth 20000 in
theorem gX13_hold_X13_divisor : GoodIn wsX13_hold (va_wsS RX13 141 yX13_divisor wsX13_divisor) := goodIn_app (goodIn_of _ (by decide +kernel)) ggX13_hold_X13_divisor
set_option maxRecDepth 20000 in
theorem gX13_hold_X13_in : GoodIn wsX13_hold (va_wsS RX13 175 yX13_in wsX13_in) := goodIn_app (goodIn_of _ (by decide +kernel)) ggX13_hold_X13_in
set_option maxRecDepth 20000 in
theorem gX13_hold_X13_isHand : GoodIn wsX13_hold (va_wsS RX13 417 yX13_isHand wsX13_isHand) := goodIn_app (goodIn_of _ (by decide +kernel)) ggX13_hold_X13_isHand
theorem hs_X13_isHand : yX13_isHand.cls ≠ "java/lang/invoke/MethodHandle" ∧ yX13_isHand.cls ≠ "java/lang/invoke/VarHandle" ∧ (parseMethodDescriptor yX13_isHand.desc).map (fun d => d.parameters.length) = some 1 := by decide +kernel
set_option maxRecDepth 20000 in
theorem in_X13_hold_X13 : ∀ w ∈ wsX130, w ∈ wsX13_hold := sub_r [18, 19, 20, 21, 22, 23, 24, 25, 26, 27, 28, 29, 30, 31, 32, 33, 34, 35, 36, 37, 38, 39, 40, 41, 42, 43, 44, 45, 46, 47, 48, 49, 50, 51, 52, 53, 54, 55, 56, 57, 58, 59, 60, 61, 62] rfl
set_option maxHeartbeats 4000000 in
set_option maxRecDepth 100000 in
theorem c_X13_hold (l : Launch) (D : va_G) (T : Nat → ClassId) (sz : Nat) (h0 : Nat) (q : Nat → Int32) (v : Int64) (w : Int64) (a : Nat → Nat) (f38 : Nat → Int32) (f39 : Nat → Int64) (f40 : Nat → Int64) (x1 : Int32) (x2 : Int32) (x3 : Int64) (x4 : Int64) (hm : 0 ≤ (q 7).toInt ∧ (q 7).toInt ≤ 24) (hhd : ∀ k : Nat, k < 4 → (f38 k).toInt = 2 → 1 ≤ (f40 k).toInt) : Met l yX13_hold wsX13_hold ({ frames := 2, cells := 0, slots := 0, locals := 45 }) (pW [.ref h0, .int x1, .int x2, .long x3, .long x4] D T [(h0, .inr (10, (Value.int (q 0) :: Value.int (q 1) :: Value.int (q 2) :: Value.int (q 3) :: Value.int (q 4) :: Value.int (q 5) :: Value.int (q 6) :: Value.int (q 7) :: Value.ref (a 8) :: Value.ref (a 9) :: Value.ref (a 10) :: Value.ref (a 11) :: Value.ref (a 12) :: Value.ref (a 13) :: Value.int (q 14) :: Value.long v :: Value.long w :: Value.ref (a 17) :: Value.ref (a 18) :: Value.ref (a 19) :: Value.ref (a 20) :: Value.ref (a 21) :: Value.ref (a 22) :: Value.ref (a 23) :: Value.int (q 24) :: Value.ref (a 25) :: Value.int (q 26) :: Value.ref (a 27) :: Value.int (q 28) :: Value.int (q 29) :: Value.int (q 30) :: Value.int (q 31) :: Value.int (q 32) :: Value.int (q 33) :: Value.ref (a 34) :: Value.ref (a 35) :: Value.ref (a 36) :: Value.ref (a 37) :: Value.ref (a 38) :: Value.ref (a 39) :: Value.ref (a 40) :: Value.int (q 41) :: Value.ref (a 42) :: Value.int (q 43) :: Value.int (q 44) :: []))), ((a 38), .inl (T 0, 4, .inl f38)), ((a 39), .inl (T 1, 4, .inr (.inl f39))), ((a 40), .inl (T 1, 4, .inr (.inl f40)))] sz) (va_Qi (fun (r : Int32) (u : (Nat → Int32) × (Nat → Int64) × (Nat → Int64)) => (∀ k : Nat, k < 4 → (u.1 k).toInt = 2 → 1 ≤ (u.2.2 k).toInt) ∧ (holdR (q 7) x1 x2 r x3 x4 f38 u.1 f39 u.2.1) ∧ (holdG (q 7) x1 x2 x3 x4 f39 f40 u.2.1 u.2.2)) (bW D (va_A [(h0, .inr (10, (Value.int (q 0) :: Value.int (q 1) :: Value.int (q 2) :: Value.int (q 3) :: Value.int (q 4) :: Value.int (q 5) :: Value.int (q 6) :: Value.int (q 7) :: Value.ref (a 8) :: Value.ref (a 9) :: Value.ref (a 10) :: Value.ref (a 11) :: Value.ref (a 12) :: Value.ref (a 13) :: Value.int (q 14) :: Value.long v :: Value.long w :: Value.ref (a 17) :: Value.ref (a 18) :: Value.ref (a 19) :: Value.ref (a 20) :: Value.ref (a 21) :: Value.ref (a 22) :: Value.ref (a 23) :: Value.int (q 24) :: Value.ref (a 25) :: Value.int (q 26) :: Value.ref (a 27) :: Value.int (q 28) :: Value.int (q 29) :: Value.int (q 30) :: Value.int (q 31) :: Value.int (q 32) :: Value.int (q 33) :: Value.ref (a 34) :: Value.ref (a 35) :: Value.ref (a 36) :: Value.ref (a 37) :: Value.ref (a 38) :: Value.ref (a 39) :: Value.ref (a 40) :: Value.int (q 41) :: Value.ref (a 42) :: Value.int (q 43) :: Value.int (q 44) :: []))), ((a 38), .inl (T 0, 4, .inl f38)), ((a 39), .inl (T 1, 4, .inr (.inl f39))), ((a 40), .inl (T 1, 4, .inr (.inl f40)))] sz) (fun (u : (Nat → Int32) × (Nat → Int64) × (Nat → Int64)) => [(h0, .inr (10, (Value.int (q 0) :: Value.int (q 1) :: Value.int (q 2) :: Value.int (q 3) :: Value.int (q 4) :: Value.int (q 5) :: Value.int (q 6) :: Value.int (q 7) :: Value.ref (a 8) :: Value.ref (a 9) :: Value.ref (a 10) :: Value.ref (a 11) :: Value.ref (a 12) :: Value.ref (a 13) :: Value.int (q 14) :: Value.long v :: Value.long w :: Value.ref (a 17) :: Value.ref (a 18) :: Value.ref (a 19) :: Value.ref (a 20) :: Value.ref (a 21) :: Value.ref (a 22) :: Value.ref (a 23) :: Value.int (q 24) :: Value.ref (a 25) :: Value.int (q 26) :: Value.ref (a 27) :: Value.int (q 28) :: Value.int (q 29) :: Value.int (q 30) :: Value.int (q 31) :: Value.int (q 32) :: Value.int (q 33) :: Value.ref (a 34) :: Value.ref (a 35) :: Value.ref (a 36) :: Value.ref (a 37) :: Value.ref (a 38) :: Value.ref (a 39) :: Value.ref (a 40) :: Value.int (q 41) :: Value.ref (a 42) :: Value.int (q 43) :: Value.int (q 44) :: []))), ((a 38), .inl (T 0, 4, .inl u.1)), ((a 39), .inl (T 1, 4, .inr (.inl u.2.1))), ((a 40), .inl (T 1, 4, .inr (.inl u.2.2)))])) (va_A [(h0, .inr (10, (Value.int (q 0) :: Value.int (q 1) :: Value.int (q 2) :: Value.int (q 3) :: Value.int (q 4) :: Value.int (q 5) :: Value.int (q 6) :: Value.int (q 7) :: Value.ref (a 8) :: Value.ref (a 9) :: Value.ref (a 10) :: Value.ref (a 11) :: Value.ref (a 12) :: Value.ref (a 13) :: Value.int (q 14) :: Value.long v :: Value.long w :: Value.ref (a 17) :: Value.ref (a 18) :: Value.ref (a 19) :: Value.ref (a 20) :: Value.ref (a 21) :: Value.ref (a 22) :: Value.ref (a 23) :: Value.int (q 24) :: Value.ref (a 25) :: Value.int (q 26) :: Value.ref (a 27) :: Value.int (q 28) :: Value.int (q 29) :: Value.int (q 30) :: Value.int (q 31) :: Value.int (q 32) :: Value.int (q 33) :: Value.ref (a 34) :: Value.ref (a 35) :: Value.ref (a 36) :: Value.ref (a 37) :: Value.ref (a 38) :: Value.ref (a 39) :: Value.ref (a 40) :: Value.int (q 41) :: Value.ref (a 42) :: Value.int (q 43) :: Value.int (q 44) :: []))), ((a 38), .inl (T 0, 4, .inl f38)), ((a 39), .inl (T 1, 4, .inr (.inl f39))), ((a 40), .inl (T 1, 4, .inr (.inl f40)))] sz)) 0 0 (va_A [(h0, .inr (10, (Value.int (q 0) :: Value.int (q 1) :: Value.int (q 2) :: Value.int (q 3) :: Value.int (q 4) :: Value.int (q 5) :: Value.int (q 6) :: Value.int (q 7) :: Value.ref (a 8) :: Value.ref (a 9) :: Value.ref (a 10) :: Value.ref (a 11) :: Value.ref (a 12) :: Value.ref (a 13) :: Value.int (q 14) :: Value.long v :: Value.long w :: Value.ref (a 17) :: Value.ref (a 18) :: Value.ref (a 19) :: Value.ref (a 20) :: Value.ref (a 21) :: Value.ref (a 22) :: Value.ref (a 23) :: Value.int (q 24) :: Value.ref (a 25) :: Value.int (q 26) :: Value.ref (a 27) :: Value.int (q 28) :: Value.int (q 29) :: Value.int (q 30) :: Value.int (q 31) :: Value.int (q 32) :: Value.int (q 33) :: Value.ref (a 34) :: Value.ref (a 35) :: Value.ref (a 36) :: Value.ref (a 37) :: Value.ref (a 38) :: Value.ref (a 39) :: Value.ref (a 40) :: Value.int (q 41) :: Value.ref (a 42) :: Value.int (q 43) :: Value.int (q 44) :: []))), ((a 38), .inl (T 0, 4, .inl f38)), ((a 39), .inl (T 1, 4, .inr (.inl f39))), ((a 40), .inl (T 1, 4, .inr (.inl f40)))] sz) := by
  refine Met.ofW (cc := cX13_hold) (maxL := 10) (ret := (some .int)) (by decide +kernel) rfl ?_
  intro p e s m args below meth c s₁ B hml hv
  obtain ⟨rfl, hsz, hP, hE, hD0⟩ := hv
  have hx := B.exec
  have hb := B.bytes
  have hr := B.returns
  have hts := atoms_spec (ws := wsX13_hold) B.pre
  have hown : s.vm.findClass RX13 = some m.cls := findClass_of_methodNamed B.named
  have hlocks := B.notSynchronized
  subst hsz
  have hD := hD0.self (sz := s.heap.size)
  generalize hAe : va_A [(h0, .inr (10, (Value.int (q 0) :: Value.int (q 1) :: Value.int (q 2) :: Value.int (q 3) :: Value.int (q 4) :: Value.int (q 5) :: Value.int (q 6) :: Value.int (q 7) :: Value.ref (a 8) :: Value.ref (a 9) :: Value.ref (a 10) :: Value.ref (a 11) :: Value.ref (a 12) :: Value.ref (a 13) :: Value.int (q 14) :: Value.long v :: Value.long w :: Value.ref (a 17) :: Value.ref (a 18) :: Value.ref (a 19) :: Value.ref (a 20) :: Value.ref (a 21) :: Value.ref (a 22) :: Value.ref (a 23) :: Value.int (q 24) :: Value.ref (a 25) :: Value.int (q 26) :: Value.ref (a 27) :: Value.int (q 28) :: Value.int (q 29) :: Value.int (q 30) :: Value.int (q 31) :: Value.int (q 32) :: Value.int (q 33) :: Value.ref (a 34) :: Value.ref (a 35) :: Value.ref (a 36) :: Value.ref (a 37) :: Value.ref (a 38) :: Value.ref (a 39) :: Value.ref (a 40) :: Value.int (q 41) :: Value.ref (a 42) :: Value.int (q 43) :: Value.int (q 44) :: []))), ((a 38), .inl (T 0, 4, .inl f38)), ((a 39), .inl (T 1, 4, .inr (.inl f39))), ((a 40), .inl (T 1, 4, .inr (.inl f40)))] s.heap.size = A at hD ⊢
  have hA : ∀ q : Nat, s.heap.size ≤ q → A q := fun q h => by rw [← hAe]; exact Or.inr h
  have hS : va_S A s.heap s.heap [] := va_S.rf
  have hP : va_P D vwCl [(h0, .inr (10, (Value.int (q 0) :: Value.int (q 1) :: Value.int (q 2) :: Value.int (q 3) :: Value.int (q 4) :: Value.int (q 5) :: Value.int (q 6) :: Value.int (q 7) :: Value.ref (a 8) :: Value.ref (a 9) :: Value.ref (a 10) :: Value.ref (a 11) :: Value.ref (a 12) :: Value.ref (a 13) :: Value.int (q 14) :: Value.long v :: Value.long w :: Value.ref (a 17) :: Value.ref (a 18) :: Value.ref (a 19) :: Value.ref (a 20) :: Value.ref (a 21) :: Value.ref (a 22) :: Value.ref (a 23) :: Value.int (q 24) :: Value.ref (a 25) :: Value.int (q 26) :: Value.ref (a 27) :: Value.int (q 28) :: Value.int (q 29) :: Value.int (q 30) :: Value.int (q 31) :: Value.int (q 32) :: Value.int (q 33) :: Value.ref (a 34) :: Value.ref (a 35) :: Value.ref (a 36) :: Value.ref (a 37) :: Value.ref (a 38) :: Value.ref (a 39) :: Value.ref (a 40) :: Value.int (q 41) :: Value.ref (a 42) :: Value.int (q 43) :: Value.int (q 44) :: []))), ((a 38), .inl (T 0, 4, .inl f38)), ((a 39), .inl (T 1, 4, .inr (.inl f39))), ((a 40), .inl (T 1, 4, .inr (.inl f40)))] s.heap := hP
  have hl := lv_entry ([.ref h0, .int x1, .int x2, .long x3, .long x4]) (n := 10) (Nat.le_of_ble_eq_true rfl)
  rw [lg_entry_eq]
  generalize (lg_sl ([.ref h0, .int x1, .int x2, .long x3, .long x4]) ++ List.replicate (10 - (lg_sl ([.ref h0, .int x1, .int x2, .long x3, .long x4])).length) Slot.unset).toArray = ls at hl ⊢
  have hl : lv_has ls 10 [(0, .ref h0), (1, .int x1), (2, .int x2), (3, .long x3), (5, .long x4)] := hl
  clear hD0
  refine lv_iload_n hx hb dX13_hold_0 rfl (lv_at hl 1 rfl) ?_
  refine vp_callSi (W.runS (As := [.int x1]) (rest := []) ⟨hx, hb, hml, hown, hts⟩ (c_X13_isHand l D T x1) (va_cwS 1 hts gX13_hold_X13_isHand rfl rfl rfl hs_X13_isHand ⟨Nat.le_of_ble_eq_true rfl, Nat.le_of_ble_eq_true rfl⟩) (pR_S hP hE [] rfl) rfl rfl hl.1 rfl (lv_room (Nat.le_of_ble_eq_true rfl)) dX13_hold_1 ⟨Nat.le_of_ble_eq_true rfl, Nat.le_of_ble_eq_true rfl⟩) (fun r_1 hr_1 => ?_)
  rcases bool_post hr_1 with ⟨c_2, rfl⟩ | ⟨c_2, rfl⟩
  · refine lv_if_eq (tgt := 59) hx hb dX13_hold_4 (by decide +kernel) (fun c9 => absurd c9 (by decide +kernel)) (fun _ => ?_)
    refine lv_iload_n hx hb dX13_hold_7 rfl (lv_at hl 2 rfl) ?_
    refine lv_i2l hx hb dX13_hold_8 rfl ?_
    refine lv_lconst (v := 0) hx hb dX13_hold_9 (by decide +kernel) ?_
    refine lv_ldc2 (v := 2) hx hb hown (hts (.constantLong RX13 184 (2)) (List.mem_of_getElem? (i := 1) rfl)) dX13_hold_10 ?_
    refine vp_callSi (W.runS (As := [.long (x2.toInt64), .long 0, .long 2]) (rest := []) ⟨hx, hb, hml, hown, hts⟩ (c_X13_in l D T (x2.toInt64) 0 2 x2.toInt 0 2 ((Int32.toInt_toInt64 _).trans rfl) (by decide +kernel) (by decide +kernel)) (va_cwS 3 hts gX13_hold_X13_in rfl rfl rfl hs_X13_in ⟨Nat.le_of_ble_eq_true rfl, Nat.le_of_ble_eq_true rfl⟩) (pR_S hP hE [] rfl) rfl rfl hl.1 rfl (lv_room (Nat.le_of_ble_eq_true rfl)) dX13_hold_13 ⟨Nat.le_of_ble_eq_true rfl, Nat.le_of_ble_eq_true rfl⟩) (fun r_3 hr_3 => ?_)
    rcases bool_post hr_3 with ⟨c_4, rfl⟩ | ⟨c_4, rfl⟩
    · refine lv_if_eq (tgt := 59) hx hb dX13_hold_16 (by decide +kernel) (fun c9 => absurd c9 (by decide +kernel)) (fun _ => ?_)
      refine lv_iload_n hx hb dX13_hold_19 rfl (lv_at hl 2 rfl) ?_
      refine lv_iconst (v := 1) hx hb dX13_hold_20 (by decide +kernel) ?_
      refine lv_icmp_ne (tgt := 39) hx hb dX13_hold_21 (by decide +kernel) (fun c_5 => ?_) (fun c_5 => ?_)
      · rw [fa_eq] at c_5
        try rw [ti_1] at c_5
        refine lv_iload_n hx hb dX13_hold_39 rfl (lv_at hl 2 rfl) ?_
        refine lv_iconst (v := 2) hx hb dX13_hold_40 (by decide +kernel) ?_
        refine lv_icmp_ne (tgt := 62) hx hb dX13_hold_41 (by decide +kernel) (fun c_6 => ?_) (fun c_6 => ?_)
        · rw [fa_eq] at c_6
          try rw [ti_2] at c_6
          refine lv_aload_n hx hb dX13_hold_62 rfl (lv_at hl 0 rfl) ?_
          refine va_get (D := D) (ci := 10) (v := .ref (a 38)) (C := RX13) (T := TX13) (N := 45) hx hb hts in_X13_hold_X13 hown hE.1 hP 0 rfl rfl 38 (by decide +kernel) (hts (.fieldLink RX13 117 "ClauseBookModel" "handSort" "[I") (List.mem_of_getElem? (i := 4) rfl)) (fun _ h9 => h9) rfl dX13_hold_63 ?_
          refine lv_iload_n hx hb dX13_hold_66 rfl (lv_at hl 1 rfl) ?_
          refine va_iald hx hb hE.1 hP 1 0 rfl rfl (by rw [vp_in_iff]; first | omega | (subst_vars; omega)) dX13_hold_67 ?_
          refine lv_topi (fun z_7 ez_7 => ?_)
          refine lv_istore (lv' := [(7, .int z_7), (0, .ref h0), (1, .int x1), (2, .int x2), (3, .long x3), (5, .long x4)]) hx hb dX13_hold_68 hl (by decide +kernel) rfl (fun ls hl => ?_)
          refine lv_iload_n hx hb dX13_hold_70 rfl (lv_at hl 3 rfl) ?_
          refine lv_iconst (v := 2) hx hb dX13_hold_71 (by decide +kernel) ?_
          refine lv_icmp_ne (tgt := 84) hx hb dX13_hold_72 (by decide +kernel) (fun c_8 => ?_) (fun c_8 => ?_)
          · rw [fa_eq] at c_8
            try rw [ti_2] at c_8
            refine lv_lconst (v := 1) hx hb dX13_hold_84 (by decide +kernel) ?_
            refine lv_lstore (lv' := [(8, .long 1), (7, .int z_7), (0, .ref h0), (1, .int x1), (2, .int x2), (3, .long x3), (5, .long x4)]) hx hb dX13_hold_85 hl (by decide +kernel) rfl (fun ls hl => ?_)
            refine lv_aload_n hx hb dX13_hold_87 rfl (lv_at hl 2 rfl) ?_
            refine va_get (D := D) (ci := 10) (v := .ref (a 38)) (C := RX13) (T := TX13) (N := 45) hx hb hts in_X13_hold_X13 hown hE.1 hP 0 rfl rfl 38 (by decide +kernel) (hts (.fieldLink RX13 117 "ClauseBookModel" "handSort" "[I") (List.mem_of_getElem? (i := 4) rfl)) (fun _ h9 => h9) rfl dX13_hold_88 ?_
            refine lv_iload_n hx hb dX13_hold_91 rfl (lv_at hl 3 rfl) ?_
            refine lv_iload_n hx hb dX13_hold_92 rfl (lv_at hl 4 rfl) ?_
            refine va_iast hx hb hE.1 hP hD hS 1 0 rfl rfl (by rw [vp_in_iff]; first | omega | (subst_vars; omega)) dX13_hold_93 (fun H locs hP hD hS => ?_)
            obtain ⟨hP, hD⟩ := wPD [(h0, .inr (10, (Value.int (q 0) :: Value.int (q 1) :: Value.int (q 2) :: Value.int (q 3) :: Value.int (q 4) :: Value.int (q 5) :: Value.int (q 6) :: Value.int (q 7) :: Value.ref (a 8) :: Value.ref (a 9) :: Value.ref (a 10) :: Value.ref (a 11) :: Value.ref (a 12) :: Value.ref (a 13) :: Value.int (q 14) :: Value.long v :: Value.long w :: Value.ref (a 17) :: Value.ref (a 18) :: Value.ref (a 19) :: Value.ref (a 20) :: Value.ref (a 21) :: Value.ref (a 22) :: Value.ref (a 23) :: Value.int (q 24) :: Value.ref (a 25) :: Value.int (q 26) :: Value.ref (a 27) :: Value.int (q 28) :: Value.int (q 29) :: Value.int (q 30) :: Value.int (q 31) :: Value.int (q 32) :: Value.int (q 33) :: Value.ref (a 34) :: Value.ref (a 35) :: Value.ref (a 36) :: Value.ref (a 37) :: Value.ref (a 38) :: Value.ref (a 39) :: Value.ref (a 40) :: Value.int (q 41) :: Value.ref (a 42) :: Value.int (q 43) :: Value.int (q 44) :: []))), ((a 38), .inl (T 0, 4, .inl (upd f38 (x1.toNatClampNeg) x2))), ((a 39), .inl (T 1, 4, .inr (.inl f39))), ((a 40), .inl (T 1, 4, .inr (.inl f40)))] hP hD rfl
            refine lv_aload_n hx hb dX13_hold_94 rfl (lv_at hl 2 rfl) ?_
            refine va_get (D := D) (ci := 10) (v := .ref (a 39)) (C := RX13) (T := TX13) (N := 45) hx hb hts in_X13_hold_X13 hown hE.1 hP 0 rfl rfl 39 (by decide +kernel) (hts (.fieldLink RX13 120 "ClauseBookModel" "handAbove" "[J") (List.mem_of_getElem? (i := 5) rfl)) (fun _ h9 => h9) rfl dX13_hold_95 ?_
            refine lv_iload_n hx hb dX13_hold_98 rfl (lv_at hl 3 rfl) ?_
            refine lv_lload_n hx hb dX13_hold_99 rfl (lv_at hl 5 rfl) ?_
            refine lv_lload hx hb dX13_hold_100 (lv_at hl 0 rfl) ?_
            refine lv_ldiv hx hb dX13_hold_102 (by decide +kernel) ?_
            refine va_last hx hb hE.1 hP hD hS 2 1 rfl rfl (by rw [vp_in_iff]; first | omega | (subst_vars; omega)) dX13_hold_103 (fun H locs hP hD hS => ?_)
            obtain ⟨hP, hD⟩ := wPD [(h0, .inr (10, (Value.int (q 0) :: Value.int (q 1) :: Value.int (q 2) :: Value.int (q 3) :: Value.int (q 4) :: Value.int (q 5) :: Value.int (q 6) :: Value.int (q 7) :: Value.ref (a 8) :: Value.ref (a 9) :: Value.ref (a 10) :: Value.ref (a 11) :: Value.ref (a 12) :: Value.ref (a 13) :: Value.int (q 14) :: Value.long v :: Value.long w :: Value.ref (a 17) :: Value.ref (a 18) :: Value.ref (a 19) :: Value.ref (a 20) :: Value.ref (a 21) :: Value.ref (a 22) :: Value.ref (a 23) :: Value.int (q 24) :: Value.ref (a 25) :: Value.int (q 26) :: Value.ref (a 27) :: Value.int (q 28) :: Value.int (q 29) :: Value.int (q 30) :: Value.int (q 31) :: Value.int (q 32) :: Value.int (q 33) :: Value.ref (a 34) :: Value.ref (a 35) :: Value.ref (a 36) :: Value.ref (a 37) :: Value.ref (a 38) :: Value.ref (a 39) :: Value.ref (a 40) :: Value.int (q 41) :: Value.ref (a 42) :: Value.int (q 43) :: Value.int (q 44) :: []))), ((a 38), .inl (T 0, 4, .inl (upd f38 (x1.toNatClampNeg) x2))), ((a 39), .inl (T 1, 4, .inr (.inl (vp_updL f39 (x1.toNatClampNeg) (x3 / 1))))), ((a 40), .inl (T 1, 4, .inr (.inl f40)))] hP hD rfl
            refine lv_aload_n hx hb dX13_hold_104 rfl (lv_at hl 2 rfl) ?_
            refine va_get (D := D) (ci := 10) (v := .ref (a 40)) (C := RX13) (T := TX13) (N := 45) hx hb hts in_X13_hold_X13 hown hE.1 hP 0 rfl rfl 40 (by decide +kernel) (hts (.fieldLink RX13 123 "ClauseBookModel" "handBelow" "[J") (List.mem_of_getElem? (i := 6) rfl)) (fun _ h9 => h9) rfl dX13_hold_105 ?_
            refine lv_iload_n hx hb dX13_hold_108 rfl (lv_at hl 3 rfl) ?_
            refine lv_iload_n hx hb dX13_hold_109 rfl (lv_at hl 4 rfl) ?_
            refine lv_iconst (v := 2) hx hb dX13_hold_110 (by decide +kernel) ?_
            refine lv_icmp_ne (tgt := 122) hx hb dX13_hold_111 (by decide +kernel) (fun c_9 => ?_) (fun c_9 => ?_)
            · rw [fa_eq] at c_9
              try rw [ti_2] at c_9
              refine lv_lconst (v := 1) hx hb dX13_hold_122 (by decide +kernel) ?_
              refine va_last hx hb hE.1 hP hD hS 3 1 rfl rfl (by rw [vp_in_iff]; first | omega | (subst_vars; omega)) dX13_hold_123 (fun H locs hP hD hS => ?_)
              obtain ⟨hP, hD⟩ := wPD [(h0, .inr (10, (Value.int (q 0) :: Value.int (q 1) :: Value.int (q 2) :: Value.int (q 3) :: Value.int (q 4) :: Value.int (q 5) :: Value.int (q 6) :: Value.int (q 7) :: Value.ref (a 8) :: Value.ref (a 9) :: Value.ref (a 10) :: Value.ref (a 11) :: Value.ref (a 12) :: Value.ref (a 13) :: Value.int (q 14) :: Value.long v :: Value.long w :: Value.ref (a 17) :: Value.ref (a 18) :: Value.ref (a 19) :: Value.ref (a 20) :: Value.ref (a 21) :: Value.ref (a 22) :: Value.ref (a 23) :: Value.int (q 24) :: Value.ref (a 25) :: Value.int (q 26) :: Value.ref (a 27) :: Value.int (q 28) :: Value.int (q 29) :: Value.int (q 30) :: Value.int (q 31) :: Value.int (q 32) :: Value.int (q 33) :: Value.ref (a 34) :: Value.ref (a 35) :: Value.ref (a 36) :: Value.ref (a 37) :: Value.ref (a 38) :: Value.ref (a 39) :: Value.ref (a 40) :: Value.int (q 41) :: Value.ref (a 42) :: Value.int (q 43) :: Value.int (q 44) :: []))), ((a 38), .inl (T 0, 4, .inl (upd f38 (x1.toNatClampNeg) x2))), ((a 39), .inl (T 1, 4, .inr (.inl (vp_updL f39 (x1.toNatClampNeg) (x3 / 1))))), ((a 40), .inl (T 1, 4, .inr (.inl (vp_updL f40 (x1.toNatClampNeg) 1))))] hP hD rfl
              refine lv_iload hx hb dX13_hold_124 (lv_at hl 1 rfl) ?_
              exact W.iret hx hb hr (fun t ht hW => ⟨⟨_, ((upd f38 (x1.toNatClampNeg) x2), (vp_updL f39 (x1.toNatClampNeg) (x3 / 1)), (vp_updL f40 (x1.toNatClampNeg) 1)), rfl, ⟨(show ∀ k : Nat, k < 4 → ((upd f38 (x1.toNatClampNeg) x2) k).toInt = 2 → 1 ≤ ((vp_updL f40 (x1.toNatClampNeg) 1) k).toInt from (hh_up hhd (fun h9 => by first | decide | exact div_pos64 (by omega) (by omega) | (exfalso; omega)))), (show holdR (q 7) x1 x2 z_7 x3 x4 f38 (upd f38 (x1.toNatClampNeg) x2) f39 (vp_updL f39 (x1.toNatClampNeg) (x3 / 1)) from (Or.inr ⟨⟨by omega, by omega, (fun h9 => by omega), (fun h9 => by omega)⟩, ez_7, rfl, (fun h9 => by first | (simp only [vp_updL, if_pos]; exact l_div1 _) | (exfalso; omega)), (fun k hk => by simp only [vp_updL, if_neg hk])⟩)), (show holdG (q 7) x1 x2 x3 x4 f39 f40 (vp_updL f39 (x1.toNatClampNeg) (x3 / 1)) (vp_updL f40 (x1.toNatClampNeg) 1) from (Or.inr ⟨⟨by omega, by omega, (fun h9 => by omega), (fun h9 => by omega)⟩, (fun h9 => by exfalso; omega), (fun k hk => by simp only [vp_updL, if_neg hk]; exact ⟨trivial, trivial⟩)⟩))⟩, by rw [ht]; exact hP.sub [0, 1, 2, 3] rfl, hD.sub [0, 1, 2, 3] (by decide +kernel) rfl⟩, hS.F ht⟩) hS.2.2 dX13_hold_126
            · rw [fa_eq] at c_9
              try rw [ti_2] at c_9
              refine lv_lload hx hb dX13_hold_114 (lv_at hl 6 rfl) ?_
              refine lv_lload hx hb dX13_hold_116 (lv_at hl 0 rfl) ?_
              refine lv_ldiv hx hb dX13_hold_118 (by decide +kernel) ?_
              refine lv_goto (tgt := 123) hx hb dX13_hold_119 (by decide +kernel) ?_
              refine va_last hx hb hE.1 hP hD hS 3 1 rfl rfl (by rw [vp_in_iff]; first | omega | (subst_vars; omega)) dX13_hold_123 (fun H locs hP hD hS => ?_)
              obtain ⟨hP, hD⟩ := wPD [(h0, .inr (10, (Value.int (q 0) :: Value.int (q 1) :: Value.int (q 2) :: Value.int (q 3) :: Value.int (q 4) :: Value.int (q 5) :: Value.int (q 6) :: Value.int (q 7) :: Value.ref (a 8) :: Value.ref (a 9) :: Value.ref (a 10) :: Value.ref (a 11) :: Value.ref (a 12) :: Value.ref (a 13) :: Value.int (q 14) :: Value.long v :: Value.long w :: Value.ref (a 17) :: Value.ref (a 18) :: Value.ref (a 19) :: Value.ref (a 20) :: Value.ref (a 21) :: Value.ref (a 22) :: Value.ref (a 23) :: Value.int (q 24) :: Value.ref (a 25) :: Value.int (q 26) :: Value.ref (a 27) :: Value.int (q 28) :: Value.int (q 29) :: Value.int (q 30) :: Value.int (q 31) :: Value.int (q 32) :: Value.int (q 33) :: Value.ref (a 34) :: Value.ref (a 35) :: Value.ref (a 36) :: Value.ref (a 37) :: Value.ref (a 38) :: Value.ref (a 39) :: Value.ref (a 40) :: Value.int (q 41) :: Value.ref (a 42) :: Value.int (q 43) :: Value.int (q 44) :: []))), ((a 38), .inl (T 0, 4, .inl (upd f38 (x1.toNatClampNeg) x2))), ((a 39), .inl (T 1, 4, .inr (.inl (vp_updL f39 (x1.toNatClampNeg) (x3 / 1))))), ((a 40), .inl (T 1, 4, .inr (.inl (vp_updL f40 (x1.toNatClampNeg) (x4 / 1)))))] hP hD rfl
              refine lv_iload hx hb dX13_hold_124 (lv_at hl 1 rfl) ?_
              exact W.iret hx hb hr (fun t ht hW => ⟨⟨_, ((upd f38 (x1.toNatClampNeg) x2), (vp_updL f39 (x1.toNatClampNeg) (x3 / 1)), (vp_updL f40 (x1.toNatClampNeg) (x4 / 1))), rfl, ⟨(show ∀ k : Nat, k < 4 → ((upd f38 (x1.toNatClampNeg) x2) k).toInt = 2 → 1 ≤ ((vp_updL f40 (x1.toNatClampNeg) (x4 / 1)) k).toInt from (hh_up hhd (fun h9 => by first | decide | exact div_pos64 (by omega) (by omega) | (exfalso; omega)))), (show holdR (q 7) x1 x2 z_7 x3 x4 f38 (upd f38 (x1.toNatClampNeg) x2) f39 (vp_updL f39 (x1.toNatClampNeg) (x3 / 1)) from (Or.inr ⟨⟨by omega, by omega, (fun h9 => by omega), (fun h9 => by omega)⟩, ez_7, rfl, (fun h9 => by first | (simp only [vp_updL, if_pos]; exact l_div1 _) | (exfalso; omega)), (fun k hk => by simp only [vp_updL, if_neg hk])⟩)), (show holdG (q 7) x1 x2 x3 x4 f39 f40 (vp_updL f39 (x1.toNatClampNeg) (x3 / 1)) (vp_updL f40 (x1.toNatClampNeg) (x4 / 1)) from (Or.inr ⟨⟨by omega, by omega, (fun h9 => by omega), (fun h9 => by omega)⟩, (fun h9 => by exfalso; omega), (fun k hk => by simp only [vp_updL, if_neg hk]; exact ⟨trivial, trivial⟩)⟩))⟩, by rw [ht]; exact hP.sub [0, 1, 2, 3] rfl, hD.sub [0, 1, 2, 3] (by decide +kernel) rfl⟩, hS.F ht⟩) hS.2.2 dX13_hold_126
          · rw [fa_eq] at c_8
            try rw [ti_2] at c_8
            refine lv_lload_n hx hb dX13_hold_75 rfl (lv_at hl 4 rfl) ?_
            refine lv_lload hx hb dX13_hold_76 (lv_at hl 5 rfl) ?_
            refine vp_callSl (W.runS (As := [.long x3, .long x4]) (rest := []) ⟨hx, hb, hml, hown, hts⟩ (c_X13_divisor l D T x3 x4 (by omega)) (va_cwS 2 hts gX13_hold_X13_divisor rfl rfl rfl hs_X13_divisor ⟨Nat.le_of_ble_eq_true rfl, Nat.le_of_ble_eq_true rfl⟩) (pR_S hP hE [] rfl) rfl rfl hl.1 rfl (lv_room (Nat.le_of_ble_eq_true rfl)) dX13_hold_78 ⟨Nat.le_of_ble_eq_true rfl, Nat.le_of_ble_eq_true rfl⟩) (fun r_10 hr_10 => ?_)
            refine lv_goto (tgt := 85) hx hb dX13_hold_81 (by decide +kernel) ?_
            refine lv_lstore (lv' := [(8, .long r_10), (7, .int z_7), (0, .ref h0), (1, .int x1), (2, .int x2), (3, .long x3), (5, .long x4)]) hx hb dX13_hold_85 hl (by decide +kernel) rfl (fun ls hl => ?_)
            refine lv_aload_n hx hb dX13_hold_87 rfl (lv_at hl 2 rfl) ?_
            refine va_get (D := D) (ci := 10) (v := .ref (a 38)) (C := RX13) (T := TX13) (N := 45) hx hb hts in_X13_hold_X13 hown hE.1 hP 0 rfl rfl 38 (by decide +kernel) (hts (.fieldLink RX13 117 "ClauseBookModel" "handSort" "[I") (List.mem_of_getElem? (i := 4) rfl)) (fun _ h9 => h9) rfl dX13_hold_88 ?_
            refine lv_iload_n hx hb dX13_hold_91 rfl (lv_at hl 3 rfl) ?_
            refine lv_iload_n hx hb dX13_hold_92 rfl (lv_at hl 4 rfl) ?_
            refine va_iast hx hb hE.1 hP hD hS 1 0 rfl rfl (by rw [vp_in_iff]; first | omega | (subst_vars; omega)) dX13_hold_93 (fun H locs hP hD hS => ?_)
            obtain ⟨hP, hD⟩ := wPD [(h0, .inr (10, (Value.int (q 0) :: Value.int (q 1) :: Value.int (q 2) :: Value.int (q 3) :: Value.int (q 4) :: Value.int (q 5) :: Value.int (q 6) :: Value.int (q 7) :: Value.ref (a 8) :: Value.ref (a 9) :: Value.ref (a 10) :: Value.ref (a 11) :: Value.ref (a 12) :: Value.ref (a 13) :: Value.int (q 14) :: Value.long v :: Value.long w :: Value.ref (a 17) :: Value.ref (a 18) :: Value.ref (a 19) :: Value.ref (a 20) :: Value.ref (a 21) :: Value.ref (a 22) :: Value.ref (a 23) :: Value.int (q 24) :: Value.ref (a 25) :: Value.int (q 26) :: Value.ref (a 27) :: Value.int (q 28) :: Value.int (q 29) :: Value.int (q 30) :: Value.int (q 31) :: Value.int (q 32) :: Value.int (q 33) :: Value.ref (a 34) :: Value.ref (a 35) :: Value.ref (a 36) :: Value.ref (a 37) :: Value.ref (a 38) :: Value.ref (a 39) :: Value.ref (a 40) :: Value.int (q 41) :: Value.ref (a 42) :: Value.int (q 43) :: Value.int (q 44) :: []))), ((a 38), .inl (T 0, 4, .inl (upd f38 (x1.toNatClampNeg) x2))), ((a 39), .inl (T 1, 4, .inr (.inl f39))), ((a 40), .inl (T 1, 4, .inr (.inl f40)))] hP hD rfl
            refine lv_aload_n hx hb dX13_hold_94 rfl (lv_at hl 2 rfl) ?_
            refine va_get (D := D) (ci := 10) (v := .ref (a 39)) (C := RX13) (T := TX13) (N := 45) hx hb hts in_X13_hold_X13 hown hE.1 hP 0 rfl rfl 39 (by decide +kernel) (hts (.fieldLink RX13 120 "ClauseBookModel" "handAbove" "[J") (List.mem_of_getElem? (i := 5) rfl)) (fun _ h9 => h9) rfl dX13_hold_95 ?_
            refine lv_iload_n hx hb dX13_hold_98 rfl (lv_at hl 3 rfl) ?_
            refine lv_lload_n hx hb dX13_hold_99 rfl (lv_at hl 5 rfl) ?_
            refine lv_lload hx hb dX13_hold_100 (lv_at hl 0 rfl) ?_
            refine lv_ldiv hx hb dX13_hold_102 (nz64 (by omega)) ?_
            refine va_last hx hb hE.1 hP hD hS 2 1 rfl rfl (by rw [vp_in_iff]; first | omega | (subst_vars; omega)) dX13_hold_103 (fun H locs hP hD hS => ?_)
            obtain ⟨hP, hD⟩ := wPD [(h0, .inr (10, (Value.int (q 0) :: Value.int (q 1) :: Value.int (q 2) :: Value.int (q 3) :: Value.int (q 4) :: Value.int (q 5) :: Value.int (q 6) :: Value.int (q 7) :: Value.ref (a 8) :: Value.ref (a 9) :: Value.ref (a 10) :: Value.ref (a 11) :: Value.ref (a 12) :: Value.ref (a 13) :: Value.int (q 14) :: Value.long v :: Value.long w :: Value.ref (a 17) :: Value.ref (a 18) :: Value.ref (a 19) :: Value.ref (a 20) :: Value.ref (a 21) :: Value.ref (a 22) :: Value.ref (a 23) :: Value.int (q 24) :: Value.ref (a 25) :: Value.int (q 26) :: Value.ref (a 27) :: Value.int (q 28) :: Value.int (q 29) :: Value.int (q 30) :: Value.int (q 31) :: Value.int (q 32) :: Value.int (q 33) :: Value.ref (a 34) :: Value.ref (a 35) :: Value.ref (a 36) :: Value.ref (a 37) :: Value.ref (a 38) :: Value.ref (a 39) :: Value.ref (a 40) :: Value.int (q 41) :: Value.ref (a 42) :: Value.int (q 43) :: Value.int (q 44) :: []))), ((a 38), .inl (T 0, 4, .inl (upd f38 (x1.toNatClampNeg) x2))), ((a 39), .inl (T 1, 4, .inr (.inl (vp_updL f39 (x1.toNatClampNeg) (x3 / r_10))))), ((a 40), .inl (T 1, 4, .inr (.inl f40)))] hP hD rfl
            refine lv_aload_n hx hb dX13_hold_104 rfl (lv_at hl 2 rfl) ?_
            refine va_get (D := D) (ci := 10) (v := .ref (a 40)) (C := RX13) (T := TX13) (N := 45) hx hb hts in_X13_hold_X13 hown hE.1 hP 0 rfl rfl 40 (by decide +kernel) (hts (.fieldLink RX13 123 "ClauseBookModel" "handBelow" "[J") (List.mem_of_getElem? (i := 6) rfl)) (fun _ h9 => h9) rfl dX13_hold_105 ?_
            refine lv_iload_n hx hb dX13_hold_108 rfl (lv_at hl 3 rfl) ?_
            refine lv_iload_n hx hb dX13_hold_109 rfl (lv_at hl 4 rfl) ?_
            refine lv_iconst (v := 2) hx hb dX13_hold_110 (by decide +kernel) ?_
            refine lv_icmp_ne (tgt := 122) hx hb dX13_hold_111 (by decide +kernel) (fun c_11 => ?_) (fun c_11 => ?_)
            · rw [fa_eq] at c_11
              try rw [ti_2] at c_11
              refine lv_lconst (v := 1) hx hb dX13_hold_122 (by decide +kernel) ?_
              refine va_last hx hb hE.1 hP hD hS 3 1 rfl rfl (by rw [vp_in_iff]; first | omega | (subst_vars; omega)) dX13_hold_123 (fun H locs hP hD hS => ?_)
              obtain ⟨hP, hD⟩ := wPD [(h0, .inr (10, (Value.int (q 0) :: Value.int (q 1) :: Value.int (q 2) :: Value.int (q 3) :: Value.int (q 4) :: Value.int (q 5) :: Value.int (q 6) :: Value.int (q 7) :: Value.ref (a 8) :: Value.ref (a 9) :: Value.ref (a 10) :: Value.ref (a 11) :: Value.ref (a 12) :: Value.ref (a 13) :: Value.int (q 14) :: Value.long v :: Value.long w :: Value.ref (a 17) :: Value.ref (a 18) :: Value.ref (a 19) :: Value.ref (a 20) :: Value.ref (a 21) :: Value.ref (a 22) :: Value.ref (a 23) :: Value.int (q 24) :: Value.ref (a 25) :: Value.int (q 26) :: Value.ref (a 27) :: Value.int (q 28) :: Value.int (q 29) :: Value.int (q 30) :: Value.int (q 31) :: Value.int (q 32) :: Value.int (q 33) :: Value.ref (a 34) :: Value.ref (a 35) :: Value.ref (a 36) :: Value.ref (a 37) :: Value.ref (a 38) :: Value.ref (a 39) :: Value.ref (a 40) :: Value.int (q 41) :: Value.ref (a 42) :: Value.int (q 43) :: Value.int (q 44) :: []))), ((a 38), .inl (T 0, 4, .inl (upd f38 (x1.toNatClampNeg) x2))), ((a 39), .inl (T 1, 4, .inr (.inl (vp_updL f39 (x1.toNatClampNeg) (x3 / r_10))))), ((a 40), .inl (T 1, 4, .inr (.inl (vp_updL f40 (x1.toNatClampNeg) 1))))] hP hD rfl
              refine lv_iload hx hb dX13_hold_124 (lv_at hl 1 rfl) ?_
              exact W.iret hx hb hr (fun t ht hW => ⟨⟨_, ((upd f38 (x1.toNatClampNeg) x2), (vp_updL f39 (x1.toNatClampNeg) (x3 / r_10)), (vp_updL f40 (x1.toNatClampNeg) 1)), rfl, ⟨(show ∀ k : Nat, k < 4 → ((upd f38 (x1.toNatClampNeg) x2) k).toInt = 2 → 1 ≤ ((vp_updL f40 (x1.toNatClampNeg) 1) k).toInt from (hh_up hhd (fun h9 => by first | decide | exact div_pos64 (by omega) (by omega) | (exfalso; omega)))), (show holdR (q 7) x1 x2 z_7 x3 x4 f38 (upd f38 (x1.toNatClampNeg) x2) f39 (vp_updL f39 (x1.toNatClampNeg) (x3 / r_10)) from (Or.inr ⟨⟨by omega, by omega, (fun h9 => by omega), (fun h9 => by omega)⟩, ez_7, rfl, (fun h9 => by first | (simp only [vp_updL, if_pos]; exact l_div1 _) | (exfalso; omega)), (fun k hk => by simp only [vp_updL, if_neg hk])⟩)), (show holdG (q 7) x1 x2 x3 x4 f39 f40 (vp_updL f39 (x1.toNatClampNeg) (x3 / r_10)) (vp_updL f40 (x1.toNatClampNeg) 1) from (Or.inr ⟨⟨by omega, by omega, (fun h9 => by omega), (fun h9 => by omega)⟩, (fun h9 => by first | (exfalso; omega) | exact ⟨(by rw [updL_at, hr_10.1]; rfl), (by rw [updL_at, hr_10.1]; rfl)⟩), (fun k hk => by simp only [vp_updL, if_neg hk]; exact ⟨trivial, trivial⟩)⟩))⟩, by rw [ht]; exact hP.sub [0, 1, 2, 3] rfl, hD.sub [0, 1, 2, 3] (by decide +kernel) rfl⟩, hS.F ht⟩) hS.2.2 dX13_hold_126
            · rw [fa_eq] at c_11
              try rw [ti_2] at c_11
              refine lv_lload hx hb dX13_hold_114 (lv_at hl 6 rfl) ?_
              refine lv_lload hx hb dX13_hold_116 (lv_at hl 0 rfl) ?_
              refine lv_ldiv hx hb dX13_hold_118 (nz64 (by omega)) ?_
              refine lv_goto (tgt := 123) hx hb dX13_hold_119 (by decide +kernel) ?_
              refine va_last hx hb hE.1 hP hD hS 3 1 rfl rfl (by rw [vp_in_iff]; first | omega | (subst_vars; omega)) dX13_hold_123 (fun H locs hP hD hS => ?_)
              obtain ⟨hP, hD⟩ := wPD [(h0, .inr (10, (Value.int (q 0) :: Value.int (q 1) :: Value.int (q 2) :: Value.int (q 3) :: Value.int (q 4) :: Value.int (q 5) :: Value.int (q 6) :: Value.int (q 7) :: Value.ref (a 8) :: Value.ref (a 9) :: Value.ref (a 10) :: Value.ref (a 11) :: Value.ref (a 12) :: Value.ref (a 13) :: Value.int (q 14) :: Value.long v :: Value.long w :: Value.ref (a 17) :: Value.ref (a 18) :: Value.ref (a 19) :: Value.ref (a 20) :: Value.ref (a 21) :: Value.ref (a 22) :: Value.ref (a 23) :: Value.int (q 24) :: Value.ref (a 25) :: Value.int (q 26) :: Value.ref (a 27) :: Value.int (q 28) :: Value.int (q 29) :: Value.int (q 30) :: Value.int (q 31) :: Value.int (q 32) :: Value.int (q 33) :: Value.ref (a 34) :: Value.ref (a 35) :: Value.ref (a 36) :: Value.ref (a 37) :: Value.ref (a 38) :: Value.ref (a 39) :: Value.ref (a 40) :: Value.int (q 41) :: Value.ref (a 42) :: Value.int (q 43) :: Value.int (q 44) :: []))), ((a 38), .inl (T 0, 4, .inl (upd f38 (x1.toNatClampNeg) x2))), ((a 39), .inl (T 1, 4, .inr (.inl (vp_updL f39 (x1.toNatClampNeg) (x3 / r_10))))), ((a 40), .inl (T 1, 4, .inr (.inl (vp_updL f40 (x1.toNatClampNeg) (x4 / r_10)))))] hP hD rfl
              refine lv_iload hx hb dX13_hold_124 (lv_at hl 1 rfl) ?_
              exact W.iret hx hb hr (fun t ht hW => ⟨⟨_, ((upd f38 (x1.toNatClampNeg) x2), (vp_updL f39 (x1.toNatClampNeg) (x3 / r_10)), (vp_updL f40 (x1.toNatClampNeg) (x4 / r_10))), rfl, ⟨(show ∀ k : Nat, k < 4 → ((upd f38 (x1.toNatClampNeg) x2) k).toInt = 2 → 1 ≤ ((vp_updL f40 (x1.toNatClampNeg) (x4 / r_10)) k).toInt from (hh_up hhd (fun h9 => by first | decide | exact div_pos64 (by omega) (by omega) | (exfalso; omega)))), (show holdR (q 7) x1 x2 z_7 x3 x4 f38 (upd f38 (x1.toNatClampNeg) x2) f39 (vp_updL f39 (x1.toNatClampNeg) (x3 / r_10)) from (Or.inr ⟨⟨by omega, by omega, (fun h9 => by omega), (fun h9 => by omega)⟩, ez_7, rfl, (fun h9 => by first | (simp only [vp_updL, if_pos]; exact l_div1 _) | (exfalso; omega)), (fun k hk => by simp only [vp_updL, if_neg hk])⟩)), (show holdG (q 7) x1 x2 x3 x4 f39 f40 (vp_updL f39 (x1.toNatClampNeg) (x3 / r_10)) (vp_updL f40 (x1.toNatClampNeg) (x4 / r_10)) from (Or.inr ⟨⟨by omega, by omega, (fun h9 => by omega), (fun h9 => by omega)⟩, (fun h9 => by first | (exfalso; omega) | exact ⟨(by rw [updL_at, hr_10.1]; rfl), (by rw [updL_at, hr_10.1]; rfl)⟩), (fun k hk => by simp only [vp_updL, if_neg hk]; exact ⟨trivial, trivial⟩)⟩))⟩, by rw [ht]; exact hP.sub [0, 1, 2, 3] rfl, hD.sub [0, 1, 2, 3] (by decide +kernel) rfl⟩, hS.F ht⟩) hS.2.2 dX13_hold_126
        · rw [fa_eq] at c_6
          try rw [ti_2] at c_6
          refine lv_lload hx hb dX13_hold_44 (lv_at hl 4 rfl) ?_
          refine lv_lconst (v := 1) hx hb dX13_hold_46 (by decide +kernel) ?_
          refine W.lcmp hx hb dX13_hold_47 ?_
          refine lv_if_lt (tgt := 59) hx hb dX13_hold_48 (by decide +kernel) (fun c_12 => ?_) (fun c_12 => ?_)
          · rw [lcmp_lt] at c_12
            try rw [tl_1] at c_12
            refine lv_bipush (v := (-2)) hx hb dX13_hold_59 (by decide +kernel) ?_
            exact W.iret hx hb hr (fun t ht hW => ⟨⟨_, (f38, f39, f40), rfl, ⟨(show ∀ k : Nat, k < 4 → (f38 k).toInt = 2 → 1 ≤ (f40 k).toInt from hhd), (show holdR (q 7) x1 x2 ((-2) : Int32) x3 x4 f38 f38 f39 f39 from (Or.inl ⟨(fun h9 => by obtain ⟨h1, h2, h3, h4⟩ := h9; first | (clear h3 h4; omega) | (have h5 := h3 (by clear h3 h4; omega); clear h3 h4; omega) | (have h5 := h4 (by clear h3 h4; omega); clear h3 h4; omega)), (by decide +kernel), rfl, rfl⟩)), (show holdG (q 7) x1 x2 x3 x4 f39 f40 f39 f40 from (Or.inl ⟨(fun h9 => by obtain ⟨h1, h2, h3, h4⟩ := h9; first | (clear h3 h4; omega) | (have h5 := h3 (by clear h3 h4; omega); clear h3 h4; omega) | (have h5 := h4 (by clear h3 h4; omega); clear h3 h4; omega)), rfl, rfl⟩))⟩, by rw [ht]; exact hP.sub [0, 1, 2, 3] rfl, hD.sub [0, 1, 2, 3] (by decide +kernel) rfl⟩, hS.F ht⟩) hS.2.2 dX13_hold_61
          · rw [lcmp_lt] at c_12
            try rw [tl_1] at c_12
            refine lv_lload_n hx hb dX13_hold_51 rfl (lv_at hl 3 rfl) ?_
            refine lv_ldc2 (v := (-9223372036854775808)) hx hb hown (hts (.constantLong RX13 139 (-9223372036854775808)) (List.mem_of_getElem? (i := 3) rfl)) dX13_hold_52 ?_
            refine W.lcmp hx hb dX13_hold_55 ?_
            refine lv_if_ne (tgt := 62) hx hb dX13_hold_56 (by decide +kernel) (fun c_13 => ?_) (fun c_13 => ?_)
            · rw [lcmp_eq] at c_13
              try rw [tl_min] at c_13
              refine lv_aload_n hx hb dX13_hold_62 rfl (lv_at hl 0 rfl) ?_
              refine va_get (D := D) (ci := 10) (v := .ref (a 38)) (C := RX13) (T := TX13) (N := 45) hx hb hts in_X13_hold_X13 hown hE.1 hP 0 rfl rfl 38 (by decide +kernel) (hts (.fieldLink RX13 117 "ClauseBookModel" "handSort" "[I") (List.mem_of_getElem? (i := 4) rfl)) (fun _ h9 => h9) rfl dX13_hold_63 ?_
              refine lv_iload_n hx hb dX13_hold_66 rfl (lv_at hl 1 rfl) ?_
              refine va_iald hx hb hE.1 hP 1 0 rfl rfl (by rw [vp_in_iff]; first | omega | (subst_vars; omega)) dX13_hold_67 ?_
              refine lv_topi (fun z_14 ez_14 => ?_)
              refine lv_istore (lv' := [(7, .int z_14), (0, .ref h0), (1, .int x1), (2, .int x2), (3, .long x3), (5, .long x4)]) hx hb dX13_hold_68 hl (by decide +kernel) rfl (fun ls hl => ?_)
              refine lv_iload_n hx hb dX13_hold_70 rfl (lv_at hl 3 rfl) ?_
              refine lv_iconst (v := 2) hx hb dX13_hold_71 (by decide +kernel) ?_
              refine lv_icmp_ne (tgt := 84) hx hb dX13_hold_72 (by decide +kernel) (fun c_15 => ?_) (fun c_15 => ?_)
              · rw [fa_eq] at c_15
                try rw [ti_2] at c_15
                refine lv_lconst (v := 1) hx hb dX13_hold_84 (by decide +kernel) ?_
                refine lv_lstore (lv' := [(8, .long 1), (7, .int z_14), (0, .ref h0), (1, .int x1), (2, .int x2), (3, .long x3), (5, .long x4)]) hx hb dX13_hold_85 hl (by decide +kernel) rfl (fun ls hl => ?_)
                refine lv_aload_n hx hb dX13_hold_87 rfl (lv_at hl 2 rfl) ?_
                refine va_get (D := D) (ci := 10) (v := .ref (a 38)) (C := RX13) (T := TX13) (N := 45) hx hb hts in_X13_hold_X13 hown hE.1 hP 0 rfl rfl 38 (by decide +kernel) (hts (.fieldLink RX13 117 "ClauseBookModel" "handSort" "[I") (List.mem_of_getElem? (i := 4) rfl)) (fun _ h9 => h9) rfl dX13_hold_88 ?_
                refine lv_iload_n hx hb dX13_hold_91 rfl (lv_at hl 3 rfl) ?_
                refine lv_iload_n hx hb dX13_hold_92 rfl (lv_at hl 4 rfl) ?_
                refine va_iast hx hb hE.1 hP hD hS 1 0 rfl rfl (by rw [vp_in_iff]; first | omega | (subst_vars; omega)) dX13_hold_93 (fun H locs hP hD hS => ?_)
                obtain ⟨hP, hD⟩ := wPD [(h0, .inr (10, (Value.int (q 0) :: Value.int (q 1) :: Value.int (q 2) :: Value.int (q 3) :: Value.int (q 4) :: Value.int (q 5) :: Value.int (q 6) :: Value.int (q 7) :: Value.ref (a 8) :: Value.ref (a 9) :: Value.ref (a 10) :: Value.ref (a 11) :: Value.ref (a 12) :: Value.ref (a 13) :: Value.int (q 14) :: Value.long v :: Value.long w :: Value.ref (a 17) :: Value.ref (a 18) :: Value.ref (a 19) :: Value.ref (a 20) :: Value.ref (a 21) :: Value.ref (a 22) :: Value.ref (a 23) :: Value.int (q 24) :: Value.ref (a 25) :: Value.int (q 26) :: Value.ref (a 27) :: Value.int (q 28) :: Value.int (q 29) :: Value.int (q 30) :: Value.int (q 31) :: Value.int (q 32) :: Value.int (q 33) :: Value.ref (a 34) :: Value.ref (a 35) :: Value.ref (a 36) :: Value.ref (a 37) :: Value.ref (a 38) :: Value.ref (a 39) :: Value.ref (a 40) :: Value.int (q 41) :: Value.ref (a 42) :: Value.int (q 43) :: Value.int (q 44) :: []))), ((a 38), .inl (T 0, 4, .inl (upd f38 (x1.toNatClampNeg) x2))), ((a 39), .inl (T 1, 4, .inr (.inl f39))), ((a 40), .inl (T 1, 4, .inr (.inl f40)))] hP hD rfl
                refine lv_aload_n hx hb dX13_hold_94 rfl (lv_at hl 2 rfl) ?_
                refine va_get (D := D) (ci := 10) (v := .ref (a 39)) (C := RX13) (T := TX13) (N := 45) hx hb hts in_X13_hold_X13 hown hE.1 hP 0 rfl rfl 39 (by decide +kernel) (hts (.fieldLink RX13 120 "ClauseBookModel" "handAbove" "[J") (List.mem_of_getElem? (i := 5) rfl)) (fun _ h9 => h9) rfl dX13_hold_95 ?_
                refine lv_iload_n hx hb dX13_hold_98 rfl (lv_at hl 3 rfl) ?_
                refine lv_lload_n hx hb dX13_hold_99 rfl (lv_at hl 5 rfl) ?_
                refine lv_lload hx hb dX13_hold_100 (lv_at hl 0 rfl) ?_
                refine lv_ldiv hx hb dX13_hold_102 (by decide +kernel) ?_
                refine va_last hx hb hE.1 hP hD hS 2 1 rfl rfl (by rw [vp_in_iff]; first | omega | (subst_vars; omega)) dX13_hold_103 (fun H locs hP hD hS => ?_)
                obtain ⟨hP, hD⟩ := wPD [(h0, .inr (10, (Value.int (q 0) :: Value.int (q 1) :: Value.int (q 2) :: Value.int (q 3) :: Value.int (q 4) :: Value.int (q 5) :: Value.int (q 6) :: Value.int (q 7) :: Value.ref (a 8) :: Value.ref (a 9) :: Value.ref (a 10) :: Value.ref (a 11) :: Value.ref (a 12) :: Value.ref (a 13) :: Value.int (q 14) :: Value.long v :: Value.long w :: Value.ref (a 17) :: Value.ref (a 18) :: Value.ref (a 19) :: Value.ref (a 20) :: Value.ref (a 21) :: Value.ref (a 22) :: Value.ref (a 23) :: Value.int (q 24) :: Value.ref (a 25) :: Value.int (q 26) :: Value.ref (a 27) :: Value.int (q 28) :: Value.int (q 29) :: Value.int (q 30) :: Value.int (q 31) :: Value.int (q 32) :: Value.int (q 33) :: Value.ref (a 34) :: Value.ref (a 35) :: Value.ref (a 36) :: Value.ref (a 37) :: Value.ref (a 38) :: Value.ref (a 39) :: Value.ref (a 40) :: Value.int (q 41) :: Value.ref (a 42) :: Value.int (q 43) :: Value.int (q 44) :: []))), ((a 38), .inl (T 0, 4, .inl (upd f38 (x1.toNatClampNeg) x2))), ((a 39), .inl (T 1, 4, .inr (.inl (vp_updL f39 (x1.toNatClampNeg) (x3 / 1))))), ((a 40), .inl (T 1, 4, .inr (.inl f40)))] hP hD rfl
                refine lv_aload_n hx hb dX13_hold_104 rfl (lv_at hl 2 rfl) ?_
                refine va_get (D := D) (ci := 10) (v := .ref (a 40)) (C := RX13) (T := TX13) (N := 45) hx hb hts in_X13_hold_X13 hown hE.1 hP 0 rfl rfl 40 (by decide +kernel) (hts (.fieldLink RX13 123 "ClauseBookModel" "handBelow" "[J") (List.mem_of_getElem? (i := 6) rfl)) (fun _ h9 => h9) rfl dX13_hold_105 ?_
                refine lv_iload_n hx hb dX13_hold_108 rfl (lv_at hl 3 rfl) ?_
                refine lv_iload_n hx hb dX13_hold_109 rfl (lv_at hl 4 rfl) ?_
                refine lv_iconst (v := 2) hx hb dX13_hold_110 (by decide +kernel) ?_
                refine lv_icmp_ne (tgt := 122) hx hb dX13_hold_111 (by decide +kernel) (fun c_16 => ?_) (fun c_16 => ?_)
                · rw [fa_eq] at c_16
                  try rw [ti_2] at c_16
                  refine lv_lconst (v := 1) hx hb dX13_hold_122 (by decide +kernel) ?_
                  refine va_last hx hb hE.1 hP hD hS 3 1 rfl rfl (by rw [vp_in_iff]; first | omega | (subst_vars; omega)) dX13_hold_123 (fun H locs hP hD hS => ?_)
                  obtain ⟨hP, hD⟩ := wPD [(h0, .inr (10, (Value.int (q 0) :: Value.int (q 1) :: Value.int (q 2) :: Value.int (q 3) :: Value.int (q 4) :: Value.int (q 5) :: Value.int (q 6) :: Value.int (q 7) :: Value.ref (a 8) :: Value.ref (a 9) :: Value.ref (a 10) :: Value.ref (a 11) :: Value.ref (a 12) :: Value.ref (a 13) :: Value.int (q 14) :: Value.long v :: Value.long w :: Value.ref (a 17) :: Value.ref (a 18) :: Value.ref (a 19) :: Value.ref (a 20) :: Value.ref (a 21) :: Value.ref (a 22) :: Value.ref (a 23) :: Value.int (q 24) :: Value.ref (a 25) :: Value.int (q 26) :: Value.ref (a 27) :: Value.int (q 28) :: Value.int (q 29) :: Value.int (q 30) :: Value.int (q 31) :: Value.int (q 32) :: Value.int (q 33) :: Value.ref (a 34) :: Value.ref (a 35) :: Value.ref (a 36) :: Value.ref (a 37) :: Value.ref (a 38) :: Value.ref (a 39) :: Value.ref (a 40) :: Value.int (q 41) :: Value.ref (a 42) :: Value.int (q 43) :: Value.int (q 44) :: []))), ((a 38), .inl (T 0, 4, .inl (upd f38 (x1.toNatClampNeg) x2))), ((a 39), .inl (T 1, 4, .inr (.inl (vp_updL f39 (x1.toNatClampNeg) (x3 / 1))))), ((a 40), .inl (T 1, 4, .inr (.inl (vp_updL f40 (x1.toNatClampNeg) 1))))] hP hD rfl
                  refine lv_iload hx hb dX13_hold_124 (lv_at hl 1 rfl) ?_
                  exact W.iret hx hb hr (fun t ht hW => ⟨⟨_, ((upd f38 (x1.toNatClampNeg) x2), (vp_updL f39 (x1.toNatClampNeg) (x3 / 1)), (vp_updL f40 (x1.toNatClampNeg) 1)), rfl, ⟨(show ∀ k : Nat, k < 4 → ((upd f38 (x1.toNatClampNeg) x2) k).toInt = 2 → 1 ≤ ((vp_updL f40 (x1.toNatClampNeg) 1) k).toInt from (hh_up hhd (fun h9 => by first | decide | exact div_pos64 (by omega) (by omega) | (exfalso; omega)))), (show holdR (q 7) x1 x2 z_14 x3 x4 f38 (upd f38 (x1.toNatClampNeg) x2) f39 (vp_updL f39 (x1.toNatClampNeg) (x3 / 1)) from (Or.inr ⟨⟨by omega, by omega, (fun h9 => by omega), (fun h9 => by omega)⟩, ez_14, rfl, (fun h9 => by first | (simp only [vp_updL, if_pos]; exact l_div1 _) | (exfalso; omega)), (fun k hk => by simp only [vp_updL, if_neg hk])⟩)), (show holdG (q 7) x1 x2 x3 x4 f39 f40 (vp_updL f39 (x1.toNatClampNeg) (x3 / 1)) (vp_updL f40 (x1.toNatClampNeg) 1) from (Or.inr ⟨⟨by omega, by omega, (fun h9 => by omega), (fun h9 => by omega)⟩, (fun h9 => by exfalso; omega), (fun k hk => by simp only [vp_updL, if_neg hk]; exact ⟨trivial, trivial⟩)⟩))⟩, by rw [ht]; exact hP.sub [0, 1, 2, 3] rfl, hD.sub [0, 1, 2, 3] (by decide +kernel) rfl⟩, hS.F ht⟩) hS.2.2 dX13_hold_126
                · rw [fa_eq] at c_16
                  try rw [ti_2] at c_16
                  refine lv_lload hx hb dX13_hold_114 (lv_at hl 6 rfl) ?_
                  refine lv_lload hx hb dX13_hold_116 (lv_at hl 0 rfl) ?_
                  refine lv_ldiv hx hb dX13_hold_118 (by decide +kernel) ?_
                  refine lv_goto (tgt := 123) hx hb dX13_hold_119 (by decide +kernel) ?_
                  refine va_last hx hb hE.1 hP hD hS 3 1 rfl rfl (by rw [vp_in_iff]; first | omega | (subst_vars; omega)) dX13_hold_123 (fun H locs hP hD hS => ?_)
                  obtain ⟨hP, hD⟩ := wPD [(h0, .inr (10, (Value.int (q 0) :: Value.int (q 1) :: Value.int (q 2) :: Value.int (q 3) :: Value.int (q 4) :: Value.int (q 5) :: Value.int (q 6) :: Value.int (q 7) :: Value.ref (a 8) :: Value.ref (a 9) :: Value.ref (a 10) :: Value.ref (a 11) :: Value.ref (a 12) :: Value.ref (a 13) :: Value.int (q 14) :: Value.long v :: Value.long w :: Value.ref (a 17) :: Value.ref (a 18) :: Value.ref (a 19) :: Value.ref (a 20) :: Value.ref (a 21) :: Value.ref (a 22) :: Value.ref (a 23) :: Value.int (q 24) :: Value.ref (a 25) :: Value.int (q 26) :: Value.ref (a 27) :: Value.int (q 28) :: Value.int (q 29) :: Value.int (q 30) :: Value.int (q 31) :: Value.int (q 32) :: Value.int (q 33) :: Value.ref (a 34) :: Value.ref (a 35) :: Value.ref (a 36) :: Value.ref (a 37) :: Value.ref (a 38) :: Value.ref (a 39) :: Value.ref (a 40) :: Value.int (q 41) :: Value.ref (a 42) :: Value.int (q 43) :: Value.int (q 44) :: []))), ((a 38), .inl (T 0, 4, .inl (upd f38 (x1.toNatClampNeg) x2))), ((a 39), .inl (T 1, 4, .inr (.inl (vp_updL f39 (x1.toNatClampNeg) (x3 / 1))))), ((a 40), .inl (T 1, 4, .inr (.inl (vp_updL f40 (x1.toNatClampNeg) (x4 / 1)))))] hP hD rfl
                  refine lv_iload hx hb dX13_hold_124 (lv_at hl 1 rfl) ?_
                  exact W.iret hx hb hr (fun t ht hW => ⟨⟨_, ((upd f38 (x1.toNatClampNeg) x2), (vp_updL f39 (x1.toNatClampNeg) (x3 / 1)), (vp_updL f40 (x1.toNatClampNeg) (x4 / 1))), rfl, ⟨(show ∀ k : Nat, k < 4 → ((upd f38 (x1.toNatClampNeg) x2) k).toInt = 2 → 1 ≤ ((vp_updL f40 (x1.toNatClampNeg) (x4 / 1)) k).toInt from (hh_up hhd (fun h9 => by first | decide | exact div_pos64 (by omega) (by omega) | (exfalso; omega)))), (show holdR (q 7) x1 x2 z_14 x3 x4 f38 (upd f38 (x1.toNatClampNeg) x2) f39 (vp_updL f39 (x1.toNatClampNeg) (x3 / 1)) from (Or.inr ⟨⟨by omega, by omega, (fun h9 => by omega), (fun h9 => by omega)⟩, ez_14, rfl, (fun h9 => by first | (simp only [vp_updL, if_pos]; exact l_div1 _) | (exfalso; omega)), (fun k hk => by simp only [vp_updL, if_neg hk])⟩)), (show holdG (q 7) x1 x2 x3 x4 f39 f40 (vp_updL f39 (x1.toNatClampNeg) (x3 / 1)) (vp_updL f40 (x1.toNatClampNeg) (x4 / 1)) from (Or.inr ⟨⟨by omega, by omega, (fun h9 => by omega), (fun h9 => by omega)⟩, (fun h9 => by exfalso; omega), (fun k hk => by simp only [vp_updL, if_neg hk]; exact ⟨trivial, trivial⟩)⟩))⟩, by rw [ht]; exact hP.sub [0, 1, 2, 3] rfl, hD.sub [0, 1, 2, 3] (by decide +kernel) rfl⟩, hS.F ht⟩) hS.2.2 dX13_hold_126
              · rw [fa_eq] at c_15
                try rw [ti_2] at c_15
                refine lv_lload_n hx hb dX13_hold_75 rfl (lv_at hl 4 rfl) ?_
                refine lv_lload hx hb dX13_hold_76 (lv_at hl 5 rfl) ?_
                refine vp_callSl (W.runS (As := [.long x3, .long x4]) (rest := []) ⟨hx, hb, hml, hown, hts⟩ (c_X13_divisor l D T x3 x4 (by omega)) (va_cwS 2 hts gX13_hold_X13_divisor rfl rfl rfl hs_X13_divisor ⟨Nat.le_of_ble_eq_true rfl, Nat.le_of_ble_eq_true rfl⟩) (pR_S hP hE [] rfl) rfl rfl hl.1 rfl (lv_room (Nat.le_of_ble_eq_true rfl)) dX13_hold_78 ⟨Nat.le_of_ble_eq_true rfl, Nat.le_of_ble_eq_true rfl⟩) (fun r_17 hr_17 => ?_)
                refine lv_goto (tgt := 85) hx hb dX13_hold_81 (by decide +kernel) ?_
                refine lv_lstore (lv' := [(8, .long r_17), (7, .int z_14), (0, .ref h0), (1, .int x1), (2, .int x2), (3, .long x3), (5, .long x4)]) hx hb dX13_hold_85 hl (by decide +kernel) rfl (fun ls hl => ?_)
                refine lv_aload_n hx hb dX13_hold_87 rfl (lv_at hl 2 rfl) ?_
                refine va_get (D := D) (ci := 10) (v := .ref (a 38)) (C := RX13) (T := TX13) (N := 45) hx hb hts in_X13_hold_X13 hown hE.1 hP 0 rfl rfl 38 (by decide +kernel) (hts (.fieldLink RX13 117 "ClauseBookModel" "handSort" "[I") (List.mem_of_getElem? (i := 4) rfl)) (fun _ h9 => h9) rfl dX13_hold_88 ?_
                refine lv_iload_n hx hb dX13_hold_91 rfl (lv_at hl 3 rfl) ?_
                refine lv_iload_n hx hb dX13_hold_92 rfl (lv_at hl 4 rfl) ?_
                refine va_iast hx hb hE.1 hP hD hS 1 0 rfl rfl (by rw [vp_in_iff]; first | omega | (subst_vars; omega)) dX13_hold_93 (fun H locs hP hD hS => ?_)
                obtain ⟨hP, hD⟩ := wPD [(h0, .inr (10, (Value.int (q 0) :: Value.int (q 1) :: Value.int (q 2) :: Value.int (q 3) :: Value.int (q 4) :: Value.int (q 5) :: Value.int (q 6) :: Value.int (q 7) :: Value.ref (a 8) :: Value.ref (a 9) :: Value.ref (a 10) :: Value.ref (a 11) :: Value.ref (a 12) :: Value.ref (a 13) :: Value.int (q 14) :: Value.long v :: Value.long w :: Value.ref (a 17) :: Value.ref (a 18) :: Value.ref (a 19) :: Value.ref (a 20) :: Value.ref (a 21) :: Value.ref (a 22) :: Value.ref (a 23) :: Value.int (q 24) :: Value.ref (a 25) :: Value.int (q 26) :: Value.ref (a 27) :: Value.int (q 28) :: Value.int (q 29) :: Value.int (q 30) :: Value.int (q 31) :: Value.int (q 32) :: Value.int (q 33) :: Value.ref (a 34) :: Value.ref (a 35) :: Value.ref (a 36) :: Value.ref (a 37) :: Value.ref (a 38) :: Value.ref (a 39) :: Value.ref (a 40) :: Value.int (q 41) :: Value.ref (a 42) :: Value.int (q 43) :: Value.int (q 44) :: []))), ((a 38), .inl (T 0, 4, .inl (upd f38 (x1.toNatClampNeg) x2))), ((a 39), .inl (T 1, 4, .inr (.inl f39))), ((a 40), .inl (T 1, 4, .inr (.inl f40)))] hP hD rfl
                refine lv_aload_n hx hb dX13_hold_94 rfl (lv_at hl 2 rfl) ?_
                refine va_get (D := D) (ci := 10) (v := .ref (a 39)) (C := RX13) (T := TX13) (N := 45) hx hb hts in_X13_hold_X13 hown hE.1 hP 0 rfl rfl 39 (by decide +kernel) (hts (.fieldLink RX13 120 "ClauseBookModel" "handAbove" "[J") (List.mem_of_getElem? (i := 5) rfl)) (fun _ h9 => h9) rfl dX13_hold_95 ?_
                refine lv_iload_n hx hb dX13_hold_98 rfl (lv_at hl 3 rfl) ?_
                refine lv_lload_n hx hb dX13_hold_99 rfl (lv_at hl 5 rfl) ?_
                refine lv_lload hx hb dX13_hold_100 (lv_at hl 0 rfl) ?_
                refine lv_ldiv hx hb dX13_hold_102 (nz64 (by omega)) ?_
                refine va_last hx hb hE.1 hP hD hS 2 1 rfl rfl (by rw [vp_in_iff]; first | omega | (subst_vars; omega)) dX13_hold_103 (fun H locs hP hD hS => ?_)
                obtain ⟨hP, hD⟩ := wPD [(h0, .inr (10, (Value.int (q 0) :: Value.int (q 1) :: Value.int (q 2) :: Value.int (q 3) :: Value.int (q 4) :: Value.int (q 5) :: Value.int (q 6) :: Value.int (q 7) :: Value.ref (a 8) :: Value.ref (a 9) :: Value.ref (a 10) :: Value.ref (a 11) :: Value.ref (a 12) :: Value.ref (a 13) :: Value.int (q 14) :: Value.long v :: Value.long w :: Value.ref (a 17) :: Value.ref (a 18) :: Value.ref (a 19) :: Value.ref (a 20) :: Value.ref (a 21) :: Value.ref (a 22) :: Value.ref (a 23) :: Value.int (q 24) :: Value.ref (a 25) :: Value.int (q 26) :: Value.ref (a 27) :: Value.int (q 28) :: Value.int (q 29) :: Value.int (q 30) :: Value.int (q 31) :: Value.int (q 32) :: Value.int (q 33) :: Value.ref (a 34) :: Value.ref (a 35) :: Value.ref (a 36) :: Value.ref (a 37) :: Value.ref (a 38) :: Value.ref (a 39) :: Value.ref (a 40) :: Value.int (q 41) :: Value.ref (a 42) :: Value.int (q 43) :: Value.int (q 44) :: []))), ((a 38), .inl (T 0, 4, .inl (upd f38 (x1.toNatClampNeg) x2))), ((a 39), .inl (T 1, 4, .inr (.inl (vp_updL f39 (x1.toNatClampNeg) (x3 / r_17))))), ((a 40), .inl (T 1, 4, .inr (.inl f40)))] hP hD rfl
                refine lv_aload_n hx hb dX13_hold_104 rfl (lv_at hl 2 rfl) ?_
                refine va_get (D := D) (ci := 10) (v := .ref (a 40)) (C := RX13) (T := TX13) (N := 45) hx hb hts in_X13_hold_X13 hown hE.1 hP 0 rfl rfl 40 (by decide +kernel) (hts (.fieldLink RX13 123 "ClauseBookModel" "handBelow" "[J") (List.mem_of_getElem? (i := 6) rfl)) (fun _ h9 => h9) rfl dX13_hold_105 ?_
                refine lv_iload_n hx hb dX13_hold_108 rfl (lv_at hl 3 rfl) ?_
                refine lv_iload_n hx hb dX13_hold_109 rfl (lv_at hl 4 rfl) ?_
                refine lv_iconst (v := 2) hx hb dX13_hold_110 (by decide +kernel) ?_
                refine lv_icmp_ne (tgt := 122) hx hb dX13_hold_111 (by decide +kernel) (fun c_18 => ?_) (fun c_18 => ?_)
                · rw [fa_eq] at c_18
                  try rw [ti_2] at c_18
                  refine lv_lconst (v := 1) hx hb dX13_hold_122 (by decide +kernel) ?_
                  refine va_last hx hb hE.1 hP hD hS 3 1 rfl rfl (by rw [vp_in_iff]; first | omega | (subst_vars; omega)) dX13_hold_123 (fun H locs hP hD hS => ?_)
                  obtain ⟨hP, hD⟩ := wPD [(h0, .inr (10, (Value.int (q 0) :: Value.int (q 1) :: Value.int (q 2) :: Value.int (q 3) :: Value.int (q 4) :: Value.int (q 5) :: Value.int (q 6) :: Value.int (q 7) :: Value.ref (a 8) :: Value.ref (a 9) :: Value.ref (a 10) :: Value.ref (a 11) :: Value.ref (a 12) :: Value.ref (a 13) :: Value.int (q 14) :: Value.long v :: Value.long w :: Value.ref (a 17) :: Value.ref (a 18) :: Value.ref (a 19) :: Value.ref (a 20) :: Value.ref (a 21) :: Value.ref (a 22) :: Value.ref (a 23) :: Value.int (q 24) :: Value.ref (a 25) :: Value.int (q 26) :: Value.ref (a 27) :: Value.int (q 28) :: Value.int (q 29) :: Value.int (q 30) :: Value.int (q 31) :: Value.int (q 32) :: Value.int (q 33) :: Value.ref (a 34) :: Value.ref (a 35) :: Value.ref (a 36) :: Value.ref (a 37) :: Value.ref (a 38) :: Value.ref (a 39) :: Value.ref (a 40) :: Value.int (q 41) :: Value.ref (a 42) :: Value.int (q 43) :: Value.int (q 44) :: []))), ((a 38), .inl (T 0, 4, .inl (upd f38 (x1.toNatClampNeg) x2))), ((a 39), .inl (T 1, 4, .inr (.inl (vp_updL f39 (x1.toNatClampNeg) (x3 / r_17))))), ((a 40), .inl (T 1, 4, .inr (.inl (vp_updL f40 (x1.toNatClampNeg) 1))))] hP hD rfl
                  refine lv_iload hx hb dX13_hold_124 (lv_at hl 1 rfl) ?_
                  exact W.iret hx hb hr (fun t ht hW => ⟨⟨_, ((upd f38 (x1.toNatClampNeg) x2), (vp_updL f39 (x1.toNatClampNeg) (x3 / r_17)), (vp_updL f40 (x1.toNatClampNeg) 1)), rfl, ⟨(show ∀ k : Nat, k < 4 → ((upd f38 (x1.toNatClampNeg) x2) k).toInt = 2 → 1 ≤ ((vp_updL f40 (x1.toNatClampNeg) 1) k).toInt from (hh_up hhd (fun h9 => by first | decide | exact div_pos64 (by omega) (by omega) | (exfalso; omega)))), (show holdR (q 7) x1 x2 z_14 x3 x4 f38 (upd f38 (x1.toNatClampNeg) x2) f39 (vp_updL f39 (x1.toNatClampNeg) (x3 / r_17)) from (Or.inr ⟨⟨by omega, by omega, (fun h9 => by omega), (fun h9 => by omega)⟩, ez_14, rfl, (fun h9 => by first | (simp only [vp_updL, if_pos]; exact l_div1 _) | (exfalso; omega)), (fun k hk => by simp only [vp_updL, if_neg hk])⟩)), (show holdG (q 7) x1 x2 x3 x4 f39 f40 (vp_updL f39 (x1.toNatClampNeg) (x3 / r_17)) (vp_updL f40 (x1.toNatClampNeg) 1) from (Or.inr ⟨⟨by omega, by omega, (fun h9 => by omega), (fun h9 => by omega)⟩, (fun h9 => by first | (exfalso; omega) | exact ⟨(by rw [updL_at, hr_17.1]; rfl), (by rw [updL_at, hr_17.1]; rfl)⟩), (fun k hk => by simp only [vp_updL, if_neg hk]; exact ⟨trivial, trivial⟩)⟩))⟩, by rw [ht]; exact hP.sub [0, 1, 2, 3] rfl, hD.sub [0, 1, 2, 3] (by decide +kernel) rfl⟩, hS.F ht⟩) hS.2.2 dX13_hold_126
                · rw [fa_eq] at c_18
                  try rw [ti_2] at c_18
                  refine lv_lload hx hb dX13_hold_114 (lv_at hl 6 rfl) ?_
                  refine lv_lload hx hb dX13_hold_116 (lv_at hl 0 rfl) ?_
                  refine lv_ldiv hx hb dX13_hold_118 (nz64 (by omega)) ?_
                  refine lv_goto (tgt := 123) hx hb dX13_hold_119 (by decide +kernel) ?_
                  refine va_last hx hb hE.1 hP hD hS 3 1 rfl rfl (by rw [vp_in_iff]; first | omega | (subst_vars; omega)) dX13_hold_123 (fun H locs hP hD hS => ?_)
                  obtain ⟨hP, hD⟩ := wPD [(h0, .inr (10, (Value.int (q 0) :: Value.int (q 1) :: Value.int (q 2) :: Value.int (q 3) :: Value.int (q 4) :: Value.int (q 5) :: Value.int (q 6) :: Value.int (q 7) :: Value.ref (a 8) :: Value.ref (a 9) :: Value.ref (a 10) :: Value.ref (a 11) :: Value.ref (a 12) :: Value.ref (a 13) :: Value.int (q 14) :: Value.long v :: Value.long w :: Value.ref (a 17) :: Value.ref (a 18) :: Value.ref (a 19) :: Value.ref (a 20) :: Value.ref (a 21) :: Value.ref (a 22) :: Value.ref (a 23) :: Value.int (q 24) :: Value.ref (a 25) :: Value.int (q 26) :: Value.ref (a 27) :: Value.int (q 28) :: Value.int (q 29) :: Value.int (q 30) :: Value.int (q 31) :: Value.int (q 32) :: Value.int (q 33) :: Value.ref (a 34) :: Value.ref (a 35) :: Value.ref (a 36) :: Value.ref (a 37) :: Value.ref (a 38) :: Value.ref (a 39) :: Value.ref (a 40) :: Value.int (q 41) :: Value.ref (a 42) :: Value.int (q 43) :: Value.int (q 44) :: []))), ((a 38), .inl (T 0, 4, .inl (upd f38 (x1.toNatClampNeg) x2))), ((a 39), .inl (T 1, 4, .inr (.inl (vp_updL f39 (x1.toNatClampNeg) (x3 / r_17))))), ((a 40), .inl (T 1, 4, .inr (.inl (vp_updL f40 (x1.toNatClampNeg) (x4 / r_17)))))] hP hD rfl
                  refine lv_iload hx hb dX13_hold_124 (lv_at hl 1 rfl) ?_
                  exact W.iret hx hb hr (fun t ht hW => ⟨⟨_, ((upd f38 (x1.toNatClampNeg) x2), (vp_updL f39 (x1.toNatClampNeg) (x3 / r_17)), (vp_updL f40 (x1.toNatClampNeg) (x4 / r_17))), rfl, ⟨(show ∀ k : Nat, k < 4 → ((upd f38 (x1.toNatClampNeg) x2) k).toInt = 2 → 1 ≤ ((vp_updL f40 (x1.toNatClampNeg) (x4 / r_17)) k).toInt from (hh_up hhd (fun h9 => by first | decide | exact div_pos64 (by omega) (by omega) | (exfalso; omega)))), (show holdR (q 7) x1 x2 z_14 x3 x4 f38 (upd f38 (x1.toNatClampNeg) x2) f39 (vp_updL f39 (x1.toNatClampNeg) (x3 / r_17)) from (Or.inr ⟨⟨by omega, by omega, (fun h9 => by omega), (fun h9 => by omega)⟩, ez_14, rfl, (fun h9 => by first | (simp only [vp_updL, if_pos]; exact l_div1 _) | (exfalso; omega)), (fun k hk => by simp only [vp_updL, if_neg hk])⟩)), (show holdG (q 7) x1 x2 x3 x4 f39 f40 (vp_updL f39 (x1.toNatClampNeg) (x3 / r_17)) (vp_updL f40 (x1.toNatClampNeg) (x4 / r_17)) from (Or.inr ⟨⟨by omega, by omega, (fun h9 => by omega), (fun h9 => by omega)⟩, (fun h9 => by first | (exfalso; omega) | exact ⟨(by rw [updL_at, hr_17.1]; rfl), (by rw [updL_at, hr_17.1]; rfl)⟩), (fun k hk => by simp only [vp_updL, if_neg hk]; exact ⟨trivial, trivial⟩)⟩))⟩, by rw [ht]; exact hP.sub [0, 1, 2, 3] rfl, hD.sub [0, 1, 2, 3] (by decide +kernel) rfl⟩, hS.F ht⟩) hS.2.2 dX13_hold_126
            · rw [lcmp_eq] at c_13
              try rw [tl_min] at c_13
              refine lv_bipush (v := (-2)) hx hb dX13_hold_59 (by decide +kernel) ?_
              exact W.iret hx hb hr (fun t ht hW => ⟨⟨_, (f38, f39, f40), rfl, ⟨(show ∀ k : Nat, k < 4 → (f38 k).toInt = 2 → 1 ≤ (f40 k).toInt from hhd), (show holdR (q 7) x1 x2 ((-2) : Int32) x3 x4 f38 f38 f39 f39 from (Or.inl ⟨(fun h9 => by obtain ⟨h1, h2, h3, h4⟩ := h9; first | (clear h3 h4; omega) | (have h5 := h3 (by clear h3 h4; omega); clear h3 h4; omega) | (have h5 := h4 (by clear h3 h4; omega); clear h3 h4; omega)), (by decide +kernel), rfl, rfl⟩)), (show holdG (q 7) x1 x2 x3 x4 f39 f40 f39 f40 from (Or.inl ⟨(fun h9 => by obtain ⟨h1, h2, h3, h4⟩ := h9; first | (clear h3 h4; omega) | (have h5 := h3 (by clear h3 h4; omega); clear h3 h4; omega) | (have h5 := h4 (by clear h3 h4; omega); clear h3 h4; omega)), rfl, rfl⟩))⟩, by rw [ht]; exact hP.sub [0, 1, 2, 3] rfl, hD.sub [0, 1, 2, 3] (by decide +kernel) rfl⟩, hS.F ht⟩) hS.2.2 dX13_hold_61
      · rw [fa_eq] at c_5
        try rw [ti_1] at c_5
        refine lv_lload_n hx hb dX13_hold_24 rfl (lv_at hl 3 rfl) ?_
        refine lv_lconst (v := 0) hx hb dX13_hold_25 (by decide +kernel) ?_
        have hd9 := dec1 (i := (q 7)) (by omega)
        refine lv_aload_n hx hb dX13_hold_26 rfl (lv_at hl 0 rfl) ?_
        refine va_get (D := D) (ci := 10) (v := .int (q 7)) (C := RX13) (T := TX13) (N := 45) hx hb hts in_X13_hold_X13 hown hE.1 hP 0 rfl rfl 7 (by decide +kernel) (hts (.fieldLink RX13 205 "ClauseBookModel" "many" "I") (List.mem_of_getElem? (i := 2) rfl)) (fun _ h9 => h9) rfl dX13_hold_27 ?_
        refine lv_iconst (v := 1) hx hb dX13_hold_30 (by decide +kernel) ?_
        refine lv_isub hx hb dX13_hold_31 ?_
        refine lv_i2l hx hb dX13_hold_32 rfl ?_
        refine vp_callSi (W.runS (As := [.long x3, .long 0, .long (((q 7) - 1).toInt64)]) (rest := []) ⟨hx, hb, hml, hown, hts⟩ (c_X13_in l D T x3 0 (((q 7) - 1).toInt64) x3.toInt 0 (((q 7) - 1)).toInt rfl (by decide +kernel) ((Int32.toInt_toInt64 _).trans rfl)) (va_cwS 3 hts gX13_hold_X13_in rfl rfl rfl hs_X13_in ⟨Nat.le_of_ble_eq_true rfl, Nat.le_of_ble_eq_true rfl⟩) (pR_S hP hE [] rfl) rfl rfl hl.1 rfl (lv_room (Nat.le_of_ble_eq_true rfl)) dX13_hold_33 ⟨Nat.le_of_ble_eq_true rfl, Nat.le_of_ble_eq_true rfl⟩) (fun r_19 hr_19 => ?_)
        rcases bool_post hr_19 with ⟨c_20, rfl⟩ | ⟨c_20, rfl⟩
        · refine lv_if_eq (tgt := 59) hx hb dX13_hold_36 (by decide +kernel) (fun c9 => absurd c9 (by decide +kernel)) (fun _ => ?_)
          refine lv_iload_n hx hb dX13_hold_39 rfl (lv_at hl 2 rfl) ?_
          refine lv_iconst (v := 2) hx hb dX13_hold_40 (by decide +kernel) ?_
          refine lv_icmp_ne (tgt := 62) hx hb dX13_hold_41 (by decide +kernel) (fun c_21 => ?_) (fun c_21 => ?_)
          · rw [fa_eq] at c_21
            try rw [ti_2] at c_21
            refine lv_aload_n hx hb dX13_hold_62 rfl (lv_at hl 0 rfl) ?_
            refine va_get (D := D) (ci := 10) (v := .ref (a 38)) (C := RX13) (T := TX13) (N := 45) hx hb hts in_X13_hold_X13 hown hE.1 hP 0 rfl rfl 38 (by decide +kernel) (hts (.fieldLink RX13 117 "ClauseBookModel" "handSort" "[I") (List.mem_of_getElem? (i := 4) rfl)) (fun _ h9 => h9) rfl dX13_hold_63 ?_
            refine lv_iload_n hx hb dX13_hold_66 rfl (lv_at hl 1 rfl) ?_
            refine va_iald hx hb hE.1 hP 1 0 rfl rfl (by rw [vp_in_iff]; first | omega | (subst_vars; omega)) dX13_hold_67 ?_
            refine lv_topi (fun z_22 ez_22 => ?_)
            refine lv_istore (lv' := [(7, .int z_22), (0, .ref h0), (1, .int x1), (2, .int x2), (3, .long x3), (5, .long x4)]) hx hb dX13_hold_68 hl (by decide +kernel) rfl (fun ls hl => ?_)
            refine lv_iload_n hx hb dX13_hold_70 rfl (lv_at hl 3 rfl) ?_
            refine lv_iconst (v := 2) hx hb dX13_hold_71 (by decide +kernel) ?_
            refine lv_icmp_ne (tgt := 84) hx hb dX13_hold_72 (by decide +kernel) (fun c_23 => ?_) (fun c_23 => ?_)
            · rw [fa_eq] at c_23
              try rw [ti_2] at c_23
              refine lv_lconst (v := 1) hx hb dX13_hold_84 (by decide +kernel) ?_
              refine lv_lstore (lv' := [(8, .long 1), (7, .int z_22), (0, .ref h0), (1, .int x1), (2, .int x2), (3, .long x3), (5, .long x4)]) hx hb dX13_hold_85 hl (by decide +kernel) rfl (fun ls hl => ?_)
              refine lv_aload_n hx hb dX13_hold_87 rfl (lv_at hl 2 rfl) ?_
              refine va_get (D := D) (ci := 10) (v := .ref (a 38)) (C := RX13) (T := TX13) (N := 45) hx hb hts in_X13_hold_X13 hown hE.1 hP 0 rfl rfl 38 (by decide +kernel) (hts (.fieldLink RX13 117 "ClauseBookModel" "handSort" "[I") (List.mem_of_getElem? (i := 4) rfl)) (fun _ h9 => h9) rfl dX13_hold_88 ?_
              refine lv_iload_n hx hb dX13_hold_91 rfl (lv_at hl 3 rfl) ?_
              refine lv_iload_n hx hb dX13_hold_92 rfl (lv_at hl 4 rfl) ?_
              refine va_iast hx hb hE.1 hP hD hS 1 0 rfl rfl (by rw [vp_in_iff]; first | omega | (subst_vars; omega)) dX13_hold_93 (fun H locs hP hD hS => ?_)
              obtain ⟨hP, hD⟩ := wPD [(h0, .inr (10, (Value.int (q 0) :: Value.int (q 1) :: Value.int (q 2) :: Value.int (q 3) :: Value.int (q 4) :: Value.int (q 5) :: Value.int (q 6) :: Value.int (q 7) :: Value.ref (a 8) :: Value.ref (a 9) :: Value.ref (a 10) :: Value.ref (a 11) :: Value.ref (a 12) :: Value.ref (a 13) :: Value.int (q 14) :: Value.long v :: Value.long w :: Value.ref (a 17) :: Value.ref (a 18) :: Value.ref (a 19) :: Value.ref (a 20) :: Value.ref (a 21) :: Value.ref (a 22) :: Value.ref (a 23) :: Value.int (q 24) :: Value.ref (a 25) :: Value.int (q 26) :: Value.ref (a 27) :: Value.int (q 28) :: Value.int (q 29) :: Value.int (q 30) :: Value.int (q 31) :: Value.int (q 32) :: Value.int (q 33) :: Value.ref (a 34) :: Value.ref (a 35) :: Value.ref (a 36) :: Value.ref (a 37) :: Value.ref (a 38) :: Value.ref (a 39) :: Value.ref (a 40) :: Value.int (q 41) :: Value.ref (a 42) :: Value.int (q 43) :: Value.int (q 44) :: []))), ((a 38), .inl (T 0, 4, .inl (upd f38 (x1.toNatClampNeg) x2))), ((a 39), .inl (T 1, 4, .inr (.inl f39))), ((a 40), .inl (T 1, 4, .inr (.inl f40)))] hP hD rfl
              refine lv_aload_n hx hb dX13_hold_94 rfl (lv_at hl 2 rfl) ?_
              refine va_get (D := D) (ci := 10) (v := .ref (a 39)) (C := RX13) (T := TX13) (N := 45) hx hb hts in_X13_hold_X13 hown hE.1 hP 0 rfl rfl 39 (by decide +kernel) (hts (.fieldLink RX13 120 "ClauseBookModel" "handAbove" "[J") (List.mem_of_getElem? (i := 5) rfl)) (fun _ h9 => h9) rfl dX13_hold_95 ?_
              refine lv_iload_n hx hb dX13_hold_98 rfl (lv_at hl 3 rfl) ?_
              refine lv_lload_n hx hb dX13_hold_99 rfl (lv_at hl 5 rfl) ?_
              refine lv_lload hx hb dX13_hold_100 (lv_at hl 0 rfl) ?_
              refine lv_ldiv hx hb dX13_hold_102 (by decide +kernel) ?_
              refine va_last hx hb hE.1 hP hD hS 2 1 rfl rfl (by rw [vp_in_iff]; first | omega | (subst_vars; omega)) dX13_hold_103 (fun H locs hP hD hS => ?_)
              obtain ⟨hP, hD⟩ := wPD [(h0, .inr (10, (Value.int (q 0) :: Value.int (q 1) :: Value.int (q 2) :: Value.int (q 3) :: Value.int (q 4) :: Value.int (q 5) :: Value.int (q 6) :: Value.int (q 7) :: Value.ref (a 8) :: Value.ref (a 9) :: Value.ref (a 10) :: Value.ref (a 11) :: Value.ref (a 12) :: Value.ref (a 13) :: Value.int (q 14) :: Value.long v :: Value.long w :: Value.ref (a 17) :: Value.ref (a 18) :: Value.ref (a 19) :: Value.ref (a 20) :: Value.ref (a 21) :: Value.ref (a 22) :: Value.ref (a 23) :: Value.int (q 24) :: Value.ref (a 25) :: Value.int (q 26) :: Value.ref (a 27) :: Value.int (q 28) :: Value.int (q 29) :: Value.int (q 30) :: Value.int (q 31) :: Value.int (q 32) :: Value.int (q 33) :: Value.ref (a 34) :: Value.ref (a 35) :: Value.ref (a 36) :: Value.ref (a 37) :: Value.ref (a 38) :: Value.ref (a 39) :: Value.ref (a 40) :: Value.int (q 41) :: Value.ref (a 42) :: Value.int (q 43) :: Value.int (q 44) :: []))), ((a 38), .inl (T 0, 4, .inl (upd f38 (x1.toNatClampNeg) x2))), ((a 39), .inl (T 1, 4, .inr (.inl (vp_updL f39 (x1.toNatClampNeg) (x3 / 1))))), ((a 40), .inl (T 1, 4, .inr (.inl f40)))] hP hD rfl
              refine lv_aload_n hx hb dX13_hold_104 rfl (lv_at hl 2 rfl) ?_
              refine va_get (D := D) (ci := 10) (v := .ref (a 40)) (C := RX13) (T := TX13) (N := 45) hx hb hts in_X13_hold_X13 hown hE.1 hP 0 rfl rfl 40 (by decide +kernel) (hts (.fieldLink RX13 123 "ClauseBookModel" "handBelow" "[J") (List.mem_of_getElem? (i := 6) rfl)) (fun _ h9 => h9) rfl dX13_hold_105 ?_
              refine lv_iload_n hx hb dX13_hold_108 rfl (lv_at hl 3 rfl) ?_
              refine lv_iload_n hx hb dX13_hold_109 rfl (lv_at hl 4 rfl) ?_
              refine lv_iconst (v := 2) hx hb dX13_hold_110 (by decide +kernel) ?_
              refine lv_icmp_ne (tgt := 122) hx hb dX13_hold_111 (by decide +kernel) (fun c_24 => ?_) (fun c_24 => ?_)
              · rw [fa_eq] at c_24
                try rw [ti_2] at c_24
                refine lv_lconst (v := 1) hx hb dX13_hold_122 (by decide +kernel) ?_
                refine va_last hx hb hE.1 hP hD hS 3 1 rfl rfl (by rw [vp_in_iff]; first | omega | (subst_vars; omega)) dX13_hold_123 (fun H locs hP hD hS => ?_)
                obtain ⟨hP, hD⟩ := wPD [(h0, .inr (10, (Value.int (q 0) :: Value.int (q 1) :: Value.int (q 2) :: Value.int (q 3) :: Value.int (q 4) :: Value.int (q 5) :: Value.int (q 6) :: Value.int (q 7) :: Value.ref (a 8) :: Value.ref (a 9) :: Value.ref (a 10) :: Value.ref (a 11) :: Value.ref (a 12) :: Value.ref (a 13) :: Value.int (q 14) :: Value.long v :: Value.long w :: Value.ref (a 17) :: Value.ref (a 18) :: Value.ref (a 19) :: Value.ref (a 20) :: Value.ref (a 21) :: Value.ref (a 22) :: Value.ref (a 23) :: Value.int (q 24) :: Value.ref (a 25) :: Value.int (q 26) :: Value.ref (a 27) :: Value.int (q 28) :: Value.int (q 29) :: Value.int (q 30) :: Value.int (q 31) :: Value.int (q 32) :: Value.int (q 33) :: Value.ref (a 34) :: Value.ref (a 35) :: Value.ref (a 36) :: Value.ref (a 37) :: Value.ref (a 38) :: Value.ref (a 39) :: Value.ref (a 40) :: Value.int (q 41) :: Value.ref (a 42) :: Value.int (q 43) :: Value.int (q 44) :: []))), ((a 38), .inl (T 0, 4, .inl (upd f38 (x1.toNatClampNeg) x2))), ((a 39), .inl (T 1, 4, .inr (.inl (vp_updL f39 (x1.toNatClampNeg) (x3 / 1))))), ((a 40), .inl (T 1, 4, .inr (.inl (vp_updL f40 (x1.toNatClampNeg) 1))))] hP hD rfl
                refine lv_iload hx hb dX13_hold_124 (lv_at hl 1 rfl) ?_
                exact W.iret hx hb hr (fun t ht hW => ⟨⟨_, ((upd f38 (x1.toNatClampNeg) x2), (vp_updL f39 (x1.toNatClampNeg) (x3 / 1)), (vp_updL f40 (x1.toNatClampNeg) 1)), rfl, ⟨(show ∀ k : Nat, k < 4 → ((upd f38 (x1.toNatClampNeg) x2) k).toInt = 2 → 1 ≤ ((vp_updL f40 (x1.toNatClampNeg) 1) k).toInt from (hh_up hhd (fun h9 => by first | decide | exact div_pos64 (by omega) (by omega) | (exfalso; omega)))), (show holdR (q 7) x1 x2 z_22 x3 x4 f38 (upd f38 (x1.toNatClampNeg) x2) f39 (vp_updL f39 (x1.toNatClampNeg) (x3 / 1)) from (Or.inr ⟨⟨by omega, by omega, (fun h9 => by omega), (fun h9 => by omega)⟩, ez_22, rfl, (fun h9 => by first | (simp only [vp_updL, if_pos]; exact l_div1 _) | (exfalso; omega)), (fun k hk => by simp only [vp_updL, if_neg hk])⟩)), (show holdG (q 7) x1 x2 x3 x4 f39 f40 (vp_updL f39 (x1.toNatClampNeg) (x3 / 1)) (vp_updL f40 (x1.toNatClampNeg) 1) from (Or.inr ⟨⟨by omega, by omega, (fun h9 => by omega), (fun h9 => by omega)⟩, (fun h9 => by exfalso; omega), (fun k hk => by simp only [vp_updL, if_neg hk]; exact ⟨trivial, trivial⟩)⟩))⟩, by rw [ht]; exact hP.sub [0, 1, 2, 3] rfl, hD.sub [0, 1, 2, 3] (by decide +kernel) rfl⟩, hS.F ht⟩) hS.2.2 dX13_hold_126
              · rw [fa_eq] at c_24
                try rw [ti_2] at c_24
                refine lv_lload hx hb dX13_hold_114 (lv_at hl 6 rfl) ?_
                refine lv_lload hx hb dX13_hold_116 (lv_at hl 0 rfl) ?_
                refine lv_ldiv hx hb dX13_hold_118 (by decide +kernel) ?_
                refine lv_goto (tgt := 123) hx hb dX13_hold_119 (by decide +kernel) ?_
                refine va_last hx hb hE.1 hP hD hS 3 1 rfl rfl (by rw [vp_in_iff]; first | omega | (subst_vars; omega)) dX13_hold_123 (fun H locs hP hD hS => ?_)
                obtain ⟨hP, hD⟩ := wPD [(h0, .inr (10, (Value.int (q 0) :: Value.int (q 1) :: Value.int (q 2) :: Value.int (q 3) :: Value.int (q 4) :: Value.int (q 5) :: Value.int (q 6) :: Value.int (q 7) :: Value.ref (a 8) :: Value.ref (a 9) :: Value.ref (a 10) :: Value.ref (a 11) :: Value.ref (a 12) :: Value.ref (a 13) :: Value.int (q 14) :: Value.long v :: Value.long w :: Value.ref (a 17) :: Value.ref (a 18) :: Value.ref (a 19) :: Value.ref (a 20) :: Value.ref (a 21) :: Value.ref (a 22) :: Value.ref (a 23) :: Value.int (q 24) :: Value.ref (a 25) :: Value.int (q 26) :: Value.ref (a 27) :: Value.int (q 28) :: Value.int (q 29) :: Value.int (q 30) :: Value.int (q 31) :: Value.int (q 32) :: Value.int (q 33) :: Value.ref (a 34) :: Value.ref (a 35) :: Value.ref (a 36) :: Value.ref (a 37) :: Value.ref (a 38) :: Value.ref (a 39) :: Value.ref (a 40) :: Value.int (q 41) :: Value.ref (a 42) :: Value.int (q 43) :: Value.int (q 44) :: []))), ((a 38), .inl (T 0, 4, .inl (upd f38 (x1.toNatClampNeg) x2))), ((a 39), .inl (T 1, 4, .inr (.inl (vp_updL f39 (x1.toNatClampNeg) (x3 / 1))))), ((a 40), .inl (T 1, 4, .inr (.inl (vp_updL f40 (x1.toNatClampNeg) (x4 / 1)))))] hP hD rfl
                refine lv_iload hx hb dX13_hold_124 (lv_at hl 1 rfl) ?_
                exact W.iret hx hb hr (fun t ht hW => ⟨⟨_, ((upd f38 (x1.toNatClampNeg) x2), (vp_updL f39 (x1.toNatClampNeg) (x3 / 1)), (vp_updL f40 (x1.toNatClampNeg) (x4 / 1))), rfl, ⟨(show ∀ k : Nat, k < 4 → ((upd f38 (x1.toNatClampNeg) x2) k).toInt = 2 → 1 ≤ ((vp_updL f40 (x1.toNatClampNeg) (x4 / 1)) k).toInt from (hh_up hhd (fun h9 => by first | decide | exact div_pos64 (by omega) (by omega) | (exfalso; omega)))), (show holdR (q 7) x1 x2 z_22 x3 x4 f38 (upd f38 (x1.toNatClampNeg) x2) f39 (vp_updL f39 (x1.toNatClampNeg) (x3 / 1)) from (Or.inr ⟨⟨by omega, by omega, (fun h9 => by omega), (fun h9 => by omega)⟩, ez_22, rfl, (fun h9 => by first | (simp only [vp_updL, if_pos]; exact l_div1 _) | (exfalso; omega)), (fun k hk => by simp only [vp_updL, if_neg hk])⟩)), (show holdG (q 7) x1 x2 x3 x4 f39 f40 (vp_updL f39 (x1.toNatClampNeg) (x3 / 1)) (vp_updL f40 (x1.toNatClampNeg) (x4 / 1)) from (Or.inr ⟨⟨by omega, by omega, (fun h9 => by omega), (fun h9 => by omega)⟩, (fun h9 => by exfalso; omega), (fun k hk => by simp only [vp_updL, if_neg hk]; exact ⟨trivial, trivial⟩)⟩))⟩, by rw [ht]; exact hP.sub [0, 1, 2, 3] rfl, hD.sub [0, 1, 2, 3] (by decide +kernel) rfl⟩, hS.F ht⟩) hS.2.2 dX13_hold_126
            · rw [fa_eq] at c_23
              try rw [ti_2] at c_23
              refine lv_lload_n hx hb dX13_hold_75 rfl (lv_at hl 4 rfl) ?_
              refine lv_lload hx hb dX13_hold_76 (lv_at hl 5 rfl) ?_
              refine vp_callSl (W.runS (As := [.long x3, .long x4]) (rest := []) ⟨hx, hb, hml, hown, hts⟩ (c_X13_divisor l D T x3 x4 (by omega)) (va_cwS 2 hts gX13_hold_X13_divisor rfl rfl rfl hs_X13_divisor ⟨Nat.le_of_ble_eq_true rfl, Nat.le_of_ble_eq_true rfl⟩) (pR_S hP hE [] rfl) rfl rfl hl.1 rfl (lv_room (Nat.le_of_ble_eq_true rfl)) dX13_hold_78 ⟨Nat.le_of_ble_eq_true rfl, Nat.le_of_ble_eq_true rfl⟩) (fun r_25 hr_25 => ?_)
              refine lv_goto (tgt := 85) hx hb dX13_hold_81 (by decide +kernel) ?_
              refine lv_lstore (lv' := [(8, .long r_25), (7, .int z_22), (0, .ref h0), (1, .int x1), (2, .int x2), (3, .long x3), (5, .long x4)]) hx hb dX13_hold_85 hl (by decide +kernel) rfl (fun ls hl => ?_)
              refine lv_aload_n hx hb dX13_hold_87 rfl (lv_at hl 2 rfl) ?_
              refine va_get (D := D) (ci := 10) (v := .ref (a 38)) (C := RX13) (T := TX13) (N := 45) hx hb hts in_X13_hold_X13 hown hE.1 hP 0 rfl rfl 38 (by decide +kernel) (hts (.fieldLink RX13 117 "ClauseBookModel" "handSort" "[I") (List.mem_of_getElem? (i := 4) rfl)) (fun _ h9 => h9) rfl dX13_hold_88 ?_
              refine lv_iload_n hx hb dX13_hold_91 rfl (lv_at hl 3 rfl) ?_
              refine lv_iload_n hx hb dX13_hold_92 rfl (lv_at hl 4 rfl) ?_
              refine va_iast hx hb hE.1 hP hD hS 1 0 rfl rfl (by rw [vp_in_iff]; first | omega | (subst_vars; omega)) dX13_hold_93 (fun H locs hP hD hS => ?_)
              obtain ⟨hP, hD⟩ := wPD [(h0, .inr (10, (Value.int (q 0) :: Value.int (q 1) :: Value.int (q 2) :: Value.int (q 3) :: Value.int (q 4) :: Value.int (q 5) :: Value.int (q 6) :: Value.int (q 7) :: Value.ref (a 8) :: Value.ref (a 9) :: Value.ref (a 10) :: Value.ref (a 11) :: Value.ref (a 12) :: Value.ref (a 13) :: Value.int (q 14) :: Value.long v :: Value.long w :: Value.ref (a 17) :: Value.ref (a 18) :: Value.ref (a 19) :: Value.ref (a 20) :: Value.ref (a 21) :: Value.ref (a 22) :: Value.ref (a 23) :: Value.int (q 24) :: Value.ref (a 25) :: Value.int (q 26) :: Value.ref (a 27) :: Value.int (q 28) :: Value.int (q 29) :: Value.int (q 30) :: Value.int (q 31) :: Value.int (q 32) :: Value.int (q 33) :: Value.ref (a 34) :: Value.ref (a 35) :: Value.ref (a 36) :: Value.ref (a 37) :: Value.ref (a 38) :: Value.ref (a 39) :: Value.ref (a 40) :: Value.int (q 41) :: Value.ref (a 42) :: Value.int (q 43) :: Value.int (q 44) :: []))), ((a 38), .inl (T 0, 4, .inl (upd f38 (x1.toNatClampNeg) x2))), ((a 39), .inl (T 1, 4, .inr (.inl f39))), ((a 40), .inl (T 1, 4, .inr (.inl f40)))] hP hD rfl
              refine lv_aload_n hx hb dX13_hold_94 rfl (lv_at hl 2 rfl) ?_
              refine va_get (D := D) (ci := 10) (v := .ref (a 39)) (C := RX13) (T := TX13) (N := 45) hx hb hts in_X13_hold_X13 hown hE.1 hP 0 rfl rfl 39 (by decide +kernel) (hts (.fieldLink RX13 120 "ClauseBookModel" "handAbove" "[J") (List.mem_of_getElem? (i := 5) rfl)) (fun _ h9 => h9) rfl dX13_hold_95 ?_
              refine lv_iload_n hx hb dX13_hold_98 rfl (lv_at hl 3 rfl) ?_
              refine lv_lload_n hx hb dX13_hold_99 rfl (lv_at hl 5 rfl) ?_
              refine lv_lload hx hb dX13_hold_100 (lv_at hl 0 rfl) ?_
              refine lv_ldiv hx hb dX13_hold_102 (nz64 (by omega)) ?_
              refine va_last hx hb hE.1 hP hD hS 2 1 rfl rfl (by rw [vp_in_iff]; first | omega | (subst_vars; omega)) dX13_hold_103 (fun H locs hP hD hS => ?_)
              obtain ⟨hP, hD⟩ := wPD [(h0, .inr (10, (Value.int (q 0) :: Value.int (q 1) :: Value.int (q 2) :: Value.int (q 3) :: Value.int (q 4) :: Value.int (q 5) :: Value.int (q 6) :: Value.int (q 7) :: Value.ref (a 8) :: Value.ref (a 9) :: Value.ref (a 10) :: Value.ref (a 11) :: Value.ref (a 12) :: Value.ref (a 13) :: Value.int (q 14) :: Value.long v :: Value.long w :: Value.ref (a 17) :: Value.ref (a 18) :: Value.ref (a 19) :: Value.ref (a 20) :: Value.ref (a 21) :: Value.ref (a 22) :: Value.ref (a 23) :: Value.int (q 24) :: Value.ref (a 25) :: Value.int (q 26) :: Value.ref (a 27) :: Value.int (q 28) :: Value.int (q 29) :: Value.int (q 30) :: Value.int (q 31) :: Value.int (q 32) :: Value.int (q 33) :: Value.ref (a 34) :: Value.ref (a 35) :: Value.ref (a 36) :: Value.ref (a 37) :: Value.ref (a 38) :: Value.ref (a 39) :: Value.ref (a 40) :: Value.int (q 41) :: Value.ref (a 42) :: Value.int (q 43) :: Value.int (q 44) :: []))), ((a 38), .inl (T 0, 4, .inl (upd f38 (x1.toNatClampNeg) x2))), ((a 39), .inl (T 1, 4, .inr (.inl (vp_updL f39 (x1.toNatClampNeg) (x3 / r_25))))), ((a 40), .inl (T 1, 4, .inr (.inl f40)))] hP hD rfl
              refine lv_aload_n hx hb dX13_hold_104 rfl (lv_at hl 2 rfl) ?_
              refine va_get (D := D) (ci := 10) (v := .ref (a 40)) (C := RX13) (T := TX13) (N := 45) hx hb hts in_X13_hold_X13 hown hE.1 hP 0 rfl rfl 40 (by decide +kernel) (hts (.fieldLink RX13 123 "ClauseBookModel" "handBelow" "[J") (List.mem_of_getElem? (i := 6) rfl)) (fun _ h9 => h9) rfl dX13_hold_105 ?_
              refine lv_iload_n hx hb dX13_hold_108 rfl (lv_at hl 3 rfl) ?_
              refine lv_iload_n hx hb dX13_hold_109 rfl (lv_at hl 4 rfl) ?_
              refine lv_iconst (v := 2) hx hb dX13_hold_110 (by decide +kernel) ?_
              refine lv_icmp_ne (tgt := 122) hx hb dX13_hold_111 (by decide +kernel) (fun c_26 => ?_) (fun c_26 => ?_)
              · rw [fa_eq] at c_26
                try rw [ti_2] at c_26
                refine lv_lconst (v := 1) hx hb dX13_hold_122 (by decide +kernel) ?_
                refine va_last hx hb hE.1 hP hD hS 3 1 rfl rfl (by rw [vp_in_iff]; first | omega | (subst_vars; omega)) dX13_hold_123 (fun H locs hP hD hS => ?_)
                obtain ⟨hP, hD⟩ := wPD [(h0, .inr (10, (Value.int (q 0) :: Value.int (q 1) :: Value.int (q 2) :: Value.int (q 3) :: Value.int (q 4) :: Value.int (q 5) :: Value.int (q 6) :: Value.int (q 7) :: Value.ref (a 8) :: Value.ref (a 9) :: Value.ref (a 10) :: Value.ref (a 11) :: Value.ref (a 12) :: Value.ref (a 13) :: Value.int (q 14) :: Value.long v :: Value.long w :: Value.ref (a 17) :: Value.ref (a 18) :: Value.ref (a 19) :: Value.ref (a 20) :: Value.ref (a 21) :: Value.ref (a 22) :: Value.ref (a 23) :: Value.int (q 24) :: Value.ref (a 25) :: Value.int (q 26) :: Value.ref (a 27) :: Value.int (q 28) :: Value.int (q 29) :: Value.int (q 30) :: Value.int (q 31) :: Value.int (q 32) :: Value.int (q 33) :: Value.ref (a 34) :: Value.ref (a 35) :: Value.ref (a 36) :: Value.ref (a 37) :: Value.ref (a 38) :: Value.ref (a 39) :: Value.ref (a 40) :: Value.int (q 41) :: Value.ref (a 42) :: Value.int (q 43) :: Value.int (q 44) :: []))), ((a 38), .inl (T 0, 4, .inl (upd f38 (x1.toNatClampNeg) x2))), ((a 39), .inl (T 1, 4, .inr (.inl (vp_updL f39 (x1.toNatClampNeg) (x3 / r_25))))), ((a 40), .inl (T 1, 4, .inr (.inl (vp_updL f40 (x1.toNatClampNeg) 1))))] hP hD rfl
                refine lv_iload hx hb dX13_hold_124 (lv_at hl 1 rfl) ?_
                exact W.iret hx hb hr (fun t ht hW => ⟨⟨_, ((upd f38 (x1.toNatClampNeg) x2), (vp_updL f39 (x1.toNatClampNeg) (x3 / r_25)), (vp_updL f40 (x1.toNatClampNeg) 1)), rfl, ⟨(show ∀ k : Nat, k < 4 → ((upd f38 (x1.toNatClampNeg) x2) k).toInt = 2 → 1 ≤ ((vp_updL f40 (x1.toNatClampNeg) 1) k).toInt from (hh_up hhd (fun h9 => by first | decide | exact div_pos64 (by omega) (by omega) | (exfalso; omega)))), (show holdR (q 7) x1 x2 z_22 x3 x4 f38 (upd f38 (x1.toNatClampNeg) x2) f39 (vp_updL f39 (x1.toNatClampNeg) (x3 / r_25)) from (Or.inr ⟨⟨by omega, by omega, (fun h9 => by omega), (fun h9 => by omega)⟩, ez_22, rfl, (fun h9 => by first | (simp only [vp_updL, if_pos]; exact l_div1 _) | (exfalso; omega)), (fun k hk => by simp only [vp_updL, if_neg hk])⟩)), (show holdG (q 7) x1 x2 x3 x4 f39 f40 (vp_updL f39 (x1.toNatClampNeg) (x3 / r_25)) (vp_updL f40 (x1.toNatClampNeg) 1) from (Or.inr ⟨⟨by omega, by omega, (fun h9 => by omega), (fun h9 => by omega)⟩, (fun h9 => by first | (exfalso; omega) | exact ⟨(by rw [updL_at, hr_25.1]; rfl), (by rw [updL_at, hr_25.1]; rfl)⟩), (fun k hk => by simp only [vp_updL, if_neg hk]; exact ⟨trivial, trivial⟩)⟩))⟩, by rw [ht]; exact hP.sub [0, 1, 2, 3] rfl, hD.sub [0, 1, 2, 3] (by decide +kernel) rfl⟩, hS.F ht⟩) hS.2.2 dX13_hold_126
              · rw [fa_eq] at c_26
                try rw [ti_2] at c_26
                refine lv_lload hx hb dX13_hold_114 (lv_at hl 6 rfl) ?_
                refine lv_lload hx hb dX13_hold_116 (lv_at hl 0 rfl) ?_
                refine lv_ldiv hx hb dX13_hold_118 (nz64 (by omega)) ?_
                refine lv_goto (tgt := 123) hx hb dX13_hold_119 (by decide +kernel) ?_
                refine va_last hx hb hE.1 hP hD hS 3 1 rfl rfl (by rw [vp_in_iff]; first | omega | (subst_vars; omega)) dX13_hold_123 (fun H locs hP hD hS => ?_)
                obtain ⟨hP, hD⟩ := wPD [(h0, .inr (10, (Value.int (q 0) :: Value.int (q 1) :: Value.int (q 2) :: Value.int (q 3) :: Value.int (q 4) :: Value.int (q 5) :: Value.int (q 6) :: Value.int (q 7) :: Value.ref (a 8) :: Value.ref (a 9) :: Value.ref (a 10) :: Value.ref (a 11) :: Value.ref (a 12) :: Value.ref (a 13) :: Value.int (q 14) :: Value.long v :: Value.long w :: Value.ref (a 17) :: Value.ref (a 18) :: Value.ref (a 19) :: Value.ref (a 20) :: Value.ref (a 21) :: Value.ref (a 22) :: Value.ref (a 23) :: Value.int (q 24) :: Value.ref (a 25) :: Value.int (q 26) :: Value.ref (a 27) :: Value.int (q 28) :: Value.int (q 29) :: Value.int (q 30) :: Value.int (q 31) :: Value.int (q 32) :: Value.int (q 33) :: Value.ref (a 34) :: Value.ref (a 35) :: Value.ref (a 36) :: Value.ref (a 37) :: Value.ref (a 38) :: Value.ref (a 39) :: Value.ref (a 40) :: Value.int (q 41) :: Value.ref (a 42) :: Value.int (q 43) :: Value.int (q 44) :: []))), ((a 38), .inl (T 0, 4, .inl (upd f38 (x1.toNatClampNeg) x2))), ((a 39), .inl (T 1, 4, .inr (.inl (vp_updL f39 (x1.toNatClampNeg) (x3 / r_25))))), ((a 40), .inl (T 1, 4, .inr (.inl (vp_updL f40 (x1.toNatClampNeg) (x4 / r_25)))))] hP hD rfl
                refine lv_iload hx hb dX13_hold_124 (lv_at hl 1 rfl) ?_
                exact W.iret hx hb hr (fun t ht hW => ⟨⟨_, ((upd f38 (x1.toNatClampNeg) x2), (vp_updL f39 (x1.toNatClampNeg) (x3 / r_25)), (vp_updL f40 (x1.toNatClampNeg) (x4 / r_25))), rfl, ⟨(show ∀ k : Nat, k < 4 → ((upd f38 (x1.toNatClampNeg) x2) k).toInt = 2 → 1 ≤ ((vp_updL f40 (x1.toNatClampNeg) (x4 / r_25)) k).toInt from (hh_up hhd (fun h9 => by first | decide | exact div_pos64 (by omega) (by omega) | (exfalso; omega)))), (show holdR (q 7) x1 x2 z_22 x3 x4 f38 (upd f38 (x1.toNatClampNeg) x2) f39 (vp_updL f39 (x1.toNatClampNeg) (x3 / r_25)) from (Or.inr ⟨⟨by omega, by omega, (fun h9 => by omega), (fun h9 => by omega)⟩, ez_22, rfl, (fun h9 => by first | (simp only [vp_updL, if_pos]; exact l_div1 _) | (exfalso; omega)), (fun k hk => by simp only [vp_updL, if_neg hk])⟩)), (show holdG (q 7) x1 x2 x3 x4 f39 f40 (vp_updL f39 (x1.toNatClampNeg) (x3 / r_25)) (vp_updL f40 (x1.toNatClampNeg) (x4 / r_25)) from (Or.inr ⟨⟨by omega, by omega, (fun h9 => by omega), (fun h9 => by omega)⟩, (fun h9 => by first | (exfalso; omega) | exact ⟨(by rw [updL_at, hr_25.1]; rfl), (by rw [updL_at, hr_25.1]; rfl)⟩), (fun k hk => by simp only [vp_updL, if_neg hk]; exact ⟨trivial, trivial⟩)⟩))⟩, by rw [ht]; exact hP.sub [0, 1, 2, 3] rfl, hD.sub [0, 1, 2, 3] (by decide +kernel) rfl⟩, hS.F ht⟩) hS.2.2 dX13_hold_126
          · rw [fa_eq] at c_21
            try rw [ti_2] at c_21
            refine lv_lload hx hb dX13_hold_44 (lv_at hl 4 rfl) ?_
            refine lv_lconst (v := 1) hx hb dX13_hold_46 (by decide +kernel) ?_
            refine W.lcmp hx hb dX13_hold_47 ?_
            refine lv_if_lt (tgt := 59) hx hb dX13_hold_48 (by decide +kernel) (fun c_27 => ?_) (fun c_27 => ?_)
            · rw [lcmp_lt] at c_27
              try rw [tl_1] at c_27
              refine lv_bipush (v := (-2)) hx hb dX13_hold_59 (by decide +kernel) ?_
              exact W.iret hx hb hr (fun t ht hW => ⟨⟨_, (f38, f39, f40), rfl, ⟨(show ∀ k : Nat, k < 4 → (f38 k).toInt = 2 → 1 ≤ (f40 k).toInt from hhd), (show holdR (q 7) x1 x2 ((-2) : Int32) x3 x4 f38 f38 f39 f39 from (Or.inl ⟨(fun h9 => by obtain ⟨h1, h2, h3, h4⟩ := h9; first | (clear h3 h4; omega) | (have h5 := h3 (by clear h3 h4; omega); clear h3 h4; omega) | (have h5 := h4 (by clear h3 h4; omega); clear h3 h4; omega)), (by decide +kernel), rfl, rfl⟩)), (show holdG (q 7) x1 x2 x3 x4 f39 f40 f39 f40 from (Or.inl ⟨(fun h9 => by obtain ⟨h1, h2, h3, h4⟩ := h9; first | (clear h3 h4; omega) | (have h5 := h3 (by clear h3 h4; omega); clear h3 h4; omega) | (have h5 := h4 (by clear h3 h4; omega); clear h3 h4; omega)), rfl, rfl⟩))⟩, by rw [ht]; exact hP.sub [0, 1, 2, 3] rfl, hD.sub [0, 1, 2, 3] (by decide +kernel) rfl⟩, hS.F ht⟩) hS.2.2 dX13_hold_61
            · rw [lcmp_lt] at c_27
              try rw [tl_1] at c_27
              refine lv_lload_n hx hb dX13_hold_51 rfl (lv_at hl 3 rfl) ?_
              refine lv_ldc2 (v := (-9223372036854775808)) hx hb hown (hts (.constantLong RX13 139 (-9223372036854775808)) (List.mem_of_getElem? (i := 3) rfl)) dX13_hold_52 ?_
              refine W.lcmp hx hb dX13_hold_55 ?_
              refine lv_if_ne (tgt := 62) hx hb dX13_hold_56 (by decide +kernel) (fun c_28 => ?_) (fun c_28 => ?_)
              · rw [lcmp_eq] at c_28
                try rw [tl_min] at c_28
                refine lv_aload_n hx hb dX13_hold_62 rfl (lv_at hl 0 rfl) ?_
                refine va_get (D := D) (ci := 10) (v := .ref (a 38)) (C := RX13) (T := TX13) (N := 45) hx hb hts in_X13_hold_X13 hown hE.1 hP 0 rfl rfl 38 (by decide +kernel) (hts (.fieldLink RX13 117 "ClauseBookModel" "handSort" "[I") (List.mem_of_getElem? (i := 4) rfl)) (fun _ h9 => h9) rfl dX13_hold_63 ?_
                refine lv_iload_n hx hb dX13_hold_66 rfl (lv_at hl 1 rfl) ?_
                refine va_iald hx hb hE.1 hP 1 0 rfl rfl (by rw [vp_in_iff]; first | omega | (subst_vars; omega)) dX13_hold_67 ?_
                refine lv_topi (fun z_29 ez_29 => ?_)
                refine lv_istore (lv' := [(7, .int z_29), (0, .ref h0), (1, .int x1), (2, .int x2), (3, .long x3), (5, .long x4)]) hx hb dX13_hold_68 hl (by decide +kernel) rfl (fun ls hl => ?_)
                refine lv_iload_n hx hb dX13_hold_70 rfl (lv_at hl 3 rfl) ?_
                refine lv_iconst (v := 2) hx hb dX13_hold_71 (by decide +kernel) ?_
                refine lv_icmp_ne (tgt := 84) hx hb dX13_hold_72 (by decide +kernel) (fun c_30 => ?_) (fun c_30 => ?_)
                · rw [fa_eq] at c_30
                  try rw [ti_2] at c_30
                  refine lv_lconst (v := 1) hx hb dX13_hold_84 (by decide +kernel) ?_
                  refine lv_lstore (lv' := [(8, .long 1), (7, .int z_29), (0, .ref h0), (1, .int x1), (2, .int x2), (3, .long x3), (5, .long x4)]) hx hb dX13_hold_85 hl (by decide +kernel) rfl (fun ls hl => ?_)
                  refine lv_aload_n hx hb dX13_hold_87 rfl (lv_at hl 2 rfl) ?_
                  refine va_get (D := D) (ci := 10) (v := .ref (a 38)) (C := RX13) (T := TX13) (N := 45) hx hb hts in_X13_hold_X13 hown hE.1 hP 0 rfl rfl 38 (by decide +kernel) (hts (.fieldLink RX13 117 "ClauseBookModel" "handSort" "[I") (List.mem_of_getElem? (i := 4) rfl)) (fun _ h9 => h9) rfl dX13_hold_88 ?_
                  refine lv_iload_n hx hb dX13_hold_91 rfl (lv_at hl 3 rfl) ?_
                  refine lv_iload_n hx hb dX13_hold_92 rfl (lv_at hl 4 rfl) ?_
                  refine va_iast hx hb hE.1 hP hD hS 1 0 rfl rfl (by rw [vp_in_iff]; first | omega | (subst_vars; omega)) dX13_hold_93 (fun H locs hP hD hS => ?_)
                  obtain ⟨hP, hD⟩ := wPD [(h0, .inr (10, (Value.int (q 0) :: Value.int (q 1) :: Value.int (q 2) :: Value.int (q 3) :: Value.int (q 4) :: Value.int (q 5) :: Value.int (q 6) :: Value.int (q 7) :: Value.ref (a 8) :: Value.ref (a 9) :: Value.ref (a 10) :: Value.ref (a 11) :: Value.ref (a 12) :: Value.ref (a 13) :: Value.int (q 14) :: Value.long v :: Value.long w :: Value.ref (a 17) :: Value.ref (a 18) :: Value.ref (a 19) :: Value.ref (a 20) :: Value.ref (a 21) :: Value.ref (a 22) :: Value.ref (a 23) :: Value.int (q 24) :: Value.ref (a 25) :: Value.int (q 26) :: Value.ref (a 27) :: Value.int (q 28) :: Value.int (q 29) :: Value.int (q 30) :: Value.int (q 31) :: Value.int (q 32) :: Value.int (q 33) :: Value.ref (a 34) :: Value.ref (a 35) :: Value.ref (a 36) :: Value.ref (a 37) :: Value.ref (a 38) :: Value.ref (a 39) :: Value.ref (a 40) :: Value.int (q 41) :: Value.ref (a 42) :: Value.int (q 43) :: Value.int (q 44) :: []))), ((a 38), .inl (T 0, 4, .inl (upd f38 (x1.toNatClampNeg) x2))), ((a 39), .inl (T 1, 4, .inr (.inl f39))), ((a 40), .inl (T 1, 4, .inr (.inl f40)))] hP hD rfl
                  refine lv_aload_n hx hb dX13_hold_94 rfl (lv_at hl 2 rfl) ?_
                  refine va_get (D := D) (ci := 10) (v := .ref (a 39)) (C := RX13) (T := TX13) (N := 45) hx hb hts in_X13_hold_X13 hown hE.1 hP 0 rfl rfl 39 (by decide +kernel) (hts (.fieldLink RX13 120 "ClauseBookModel" "handAbove" "[J") (List.mem_of_getElem? (i := 5) rfl)) (fun _ h9 => h9) rfl dX13_hold_95 ?_
                  refine lv_iload_n hx hb dX13_hold_98 rfl (lv_at hl 3 rfl) ?_
                  refine lv_lload_n hx hb dX13_hold_99 rfl (lv_at hl 5 rfl) ?_
                  refine lv_lload hx hb dX13_hold_100 (lv_at hl 0 rfl) ?_
                  refine lv_ldiv hx hb dX13_hold_102 (by decide +kernel) ?_
                  refine va_last hx hb hE.1 hP hD hS 2 1 rfl rfl (by rw [vp_in_iff]; first | omega | (subst_vars; omega)) dX13_hold_103 (fun H locs hP hD hS => ?_)
                  obtain ⟨hP, hD⟩ := wPD [(h0, .inr (10, (Value.int (q 0) :: Value.int (q 1) :: Value.int (q 2) :: Value.int (q 3) :: Value.int (q 4) :: Value.int (q 5) :: Value.int (q 6) :: Value.int (q 7) :: Value.ref (a 8) :: Value.ref (a 9) :: Value.ref (a 10) :: Value.ref (a 11) :: Value.ref (a 12) :: Value.ref (a 13) :: Value.int (q 14) :: Value.long v :: Value.long w :: Value.ref (a 17) :: Value.ref (a 18) :: Value.ref (a 19) :: Value.ref (a 20) :: Value.ref (a 21) :: Value.ref (a 22) :: Value.ref (a 23) :: Value.int (q 24) :: Value.ref (a 25) :: Value.int (q 26) :: Value.ref (a 27) :: Value.int (q 28) :: Value.int (q 29) :: Value.int (q 30) :: Value.int (q 31) :: Value.int (q 32) :: Value.int (q 33) :: Value.ref (a 34) :: Value.ref (a 35) :: Value.ref (a 36) :: Value.ref (a 37) :: Value.ref (a 38) :: Value.ref (a 39) :: Value.ref (a 40) :: Value.int (q 41) :: Value.ref (a 42) :: Value.int (q 43) :: Value.int (q 44) :: []))), ((a 38), .inl (T 0, 4, .inl (upd f38 (x1.toNatClampNeg) x2))), ((a 39), .inl (T 1, 4, .inr (.inl (vp_updL f39 (x1.toNatClampNeg) (x3 / 1))))), ((a 40), .inl (T 1, 4, .inr (.inl f40)))] hP hD rfl
                  refine lv_aload_n hx hb dX13_hold_104 rfl (lv_at hl 2 rfl) ?_
                  refine va_get (D := D) (ci := 10) (v := .ref (a 40)) (C := RX13) (T := TX13) (N := 45) hx hb hts in_X13_hold_X13 hown hE.1 hP 0 rfl rfl 40 (by decide +kernel) (hts (.fieldLink RX13 123 "ClauseBookModel" "handBelow" "[J") (List.mem_of_getElem? (i := 6) rfl)) (fun _ h9 => h9) rfl dX13_hold_105 ?_
                  refine lv_iload_n hx hb dX13_hold_108 rfl (lv_at hl 3 rfl) ?_
                  refine lv_iload_n hx hb dX13_hold_109 rfl (lv_at hl 4 rfl) ?_
                  refine lv_iconst (v := 2) hx hb dX13_hold_110 (by decide +kernel) ?_
                  refine lv_icmp_ne (tgt := 122) hx hb dX13_hold_111 (by decide +kernel) (fun c_31 => ?_) (fun c_31 => ?_)
                  · rw [fa_eq] at c_31
                    try rw [ti_2] at c_31
                    refine lv_lconst (v := 1) hx hb dX13_hold_122 (by decide +kernel) ?_
                    refine va_last hx hb hE.1 hP hD hS 3 1 rfl rfl (by rw [vp_in_iff]; first | omega | (subst_vars; omega)) dX13_hold_123 (fun H locs hP hD hS => ?_)
                    obtain ⟨hP, hD⟩ := wPD [(h0, .inr (10, (Value.int (q 0) :: Value.int (q 1) :: Value.int (q 2) :: Value.int (q 3) :: Value.int (q 4) :: Value.int (q 5) :: Value.int (q 6) :: Value.int (q 7) :: Value.ref (a 8) :: Value.ref (a 9) :: Value.ref (a 10) :: Value.ref (a 11) :: Value.ref (a 12) :: Value.ref (a 13) :: Value.int (q 14) :: Value.long v :: Value.long w :: Value.ref (a 17) :: Value.ref (a 18) :: Value.ref (a 19) :: Value.ref (a 20) :: Value.ref (a 21) :: Value.ref (a 22) :: Value.ref (a 23) :: Value.int (q 24) :: Value.ref (a 25) :: Value.int (q 26) :: Value.ref (a 27) :: Value.int (q 28) :: Value.int (q 29) :: Value.int (q 30) :: Value.int (q 31) :: Value.int (q 32) :: Value.int (q 33) :: Value.ref (a 34) :: Value.ref (a 35) :: Value.ref (a 36) :: Value.ref (a 37) :: Value.ref (a 38) :: Value.ref (a 39) :: Value.ref (a 40) :: Value.int (q 41) :: Value.ref (a 42) :: Value.int (q 43) :: Value.int (q 44) :: []))), ((a 38), .inl (T 0, 4, .inl (upd f38 (x1.toNatClampNeg) x2))), ((a 39), .inl (T 1, 4, .inr (.inl (vp_updL f39 (x1.toNatClampNeg) (x3 / 1))))), ((a 40), .inl (T 1, 4, .inr (.inl (vp_updL f40 (x1.toNatClampNeg) 1))))] hP hD rfl
                    refine lv_iload hx hb dX13_hold_124 (lv_at hl 1 rfl) ?_
                    exact W.iret hx hb hr (fun t ht hW => ⟨⟨_, ((upd f38 (x1.toNatClampNeg) x2), (vp_updL f39 (x1.toNatClampNeg) (x3 / 1)), (vp_updL f40 (x1.toNatClampNeg) 1)), rfl, ⟨(show ∀ k : Nat, k < 4 → ((upd f38 (x1.toNatClampNeg) x2) k).toInt = 2 → 1 ≤ ((vp_updL f40 (x1.toNatClampNeg) 1) k).toInt from (hh_up hhd (fun h9 => by first | decide | exact div_pos64 (by omega) (by omega) | (exfalso; omega)))), (show holdR (q 7) x1 x2 z_29 x3 x4 f38 (upd f38 (x1.toNatClampNeg) x2) f39 (vp_updL f39 (x1.toNatClampNeg) (x3 / 1)) from (Or.inr ⟨⟨by omega, by omega, (fun h9 => by omega), (fun h9 => by omega)⟩, ez_29, rfl, (fun h9 => by first | (simp only [vp_updL, if_pos]; exact l_div1 _) | (exfalso; omega)), (fun k hk => by simp only [vp_updL, if_neg hk])⟩)), (show holdG (q 7) x1 x2 x3 x4 f39 f40 (vp_updL f39 (x1.toNatClampNeg) (x3 / 1)) (vp_updL f40 (x1.toNatClampNeg) 1) from (Or.inr ⟨⟨by omega, by omega, (fun h9 => by omega), (fun h9 => by omega)⟩, (fun h9 => by exfalso; omega), (fun k hk => by simp only [vp_updL, if_neg hk]; exact ⟨trivial, trivial⟩)⟩))⟩, by rw [ht]; exact hP.sub [0, 1, 2, 3] rfl, hD.sub [0, 1, 2, 3] (by decide +kernel) rfl⟩, hS.F ht⟩) hS.2.2 dX13_hold_126
                  · rw [fa_eq] at c_31
                    try rw [ti_2] at c_31
                    refine lv_lload hx hb dX13_hold_114 (lv_at hl 6 rfl) ?_
                    refine lv_lload hx hb dX13_hold_116 (lv_at hl 0 rfl) ?_
                    refine lv_ldiv hx hb dX13_hold_118 (by decide +kernel) ?_
                    refine lv_goto (tgt := 123) hx hb dX13_hold_119 (by decide +kernel) ?_
                    refine va_last hx hb hE.1 hP hD hS 3 1 rfl rfl (by rw [vp_in_iff]; first | omega | (subst_vars; omega)) dX13_hold_123 (fun H locs hP hD hS => ?_)
                    obtain ⟨hP, hD⟩ := wPD [(h0, .inr (10, (Value.int (q 0) :: Value.int (q 1) :: Value.int (q 2) :: Value.int (q 3) :: Value.int (q 4) :: Value.int (q 5) :: Value.int (q 6) :: Value.int (q 7) :: Value.ref (a 8) :: Value.ref (a 9) :: Value.ref (a 10) :: Value.ref (a 11) :: Value.ref (a 12) :: Value.ref (a 13) :: Value.int (q 14) :: Value.long v :: Value.long w :: Value.ref (a 17) :: Value.ref (a 18) :: Value.ref (a 19) :: Value.ref (a 20) :: Value.ref (a 21) :: Value.ref (a 22) :: Value.ref (a 23) :: Value.int (q 24) :: Value.ref (a 25) :: Value.int (q 26) :: Value.ref (a 27) :: Value.int (q 28) :: Value.int (q 29) :: Value.int (q 30) :: Value.int (q 31) :: Value.int (q 32) :: Value.int (q 33) :: Value.ref (a 34) :: Value.ref (a 35) :: Value.ref (a 36) :: Value.ref (a 37) :: Value.ref (a 38) :: Value.ref (a 39) :: Value.ref (a 40) :: Value.int (q 41) :: Value.ref (a 42) :: Value.int (q 43) :: Value.int (q 44) :: []))), ((a 38), .inl (T 0, 4, .inl (upd f38 (x1.toNatClampNeg) x2))), ((a 39), .inl (T 1, 4, .inr (.inl (vp_updL f39 (x1.toNatClampNeg) (x3 / 1))))), ((a 40), .inl (T 1, 4, .inr (.inl (vp_updL f40 (x1.toNatClampNeg) (x4 / 1)))))] hP hD rfl
                    refine lv_iload hx hb dX13_hold_124 (lv_at hl 1 rfl) ?_
                    exact W.iret hx hb hr (fun t ht hW => ⟨⟨_, ((upd f38 (x1.toNatClampNeg) x2), (vp_updL f39 (x1.toNatClampNeg) (x3 / 1)), (vp_updL f40 (x1.toNatClampNeg) (x4 / 1))), rfl, ⟨(show ∀ k : Nat, k < 4 → ((upd f38 (x1.toNatClampNeg) x2) k).toInt = 2 → 1 ≤ ((vp_updL f40 (x1.toNatClampNeg) (x4 / 1)) k).toInt from (hh_up hhd (fun h9 => by first | decide | exact div_pos64 (by omega) (by omega) | (exfalso; omega)))), (show holdR (q 7) x1 x2 z_29 x3 x4 f38 (upd f38 (x1.toNatClampNeg) x2) f39 (vp_updL f39 (x1.toNatClampNeg) (x3 / 1)) from (Or.inr ⟨⟨by omega, by omega, (fun h9 => by omega), (fun h9 => by omega)⟩, ez_29, rfl, (fun h9 => by first | (simp only [vp_updL, if_pos]; exact l_div1 _) | (exfalso; omega)), (fun k hk => by simp only [vp_updL, if_neg hk])⟩)), (show holdG (q 7) x1 x2 x3 x4 f39 f40 (vp_updL f39 (x1.toNatClampNeg) (x3 / 1)) (vp_updL f40 (x1.toNatClampNeg) (x4 / 1)) from (Or.inr ⟨⟨by omega, by omega, (fun h9 => by omega), (fun h9 => by omega)⟩, (fun h9 => by exfalso; omega), (fun k hk => by simp only [vp_updL, if_neg hk]; exact ⟨trivial, trivial⟩)⟩))⟩, by rw [ht]; exact hP.sub [0, 1, 2, 3] rfl, hD.sub [0, 1, 2, 3] (by decide +kernel) rfl⟩, hS.F ht⟩) hS.2.2 dX13_hold_126
                · rw [fa_eq] at c_30
                  try rw [ti_2] at c_30
                  refine lv_lload_n hx hb dX13_hold_75 rfl (lv_at hl 4 rfl) ?_
                  refine lv_lload hx hb dX13_hold_76 (lv_at hl 5 rfl) ?_
                  refine vp_callSl (W.runS (As := [.long x3, .long x4]) (rest := []) ⟨hx, hb, hml, hown, hts⟩ (c_X13_divisor l D T x3 x4 (by omega)) (va_cwS 2 hts gX13_hold_X13_divisor rfl rfl rfl hs_X13_divisor ⟨Nat.le_of_ble_eq_true rfl, Nat.le_of_ble_eq_true rfl⟩) (pR_S hP hE [] rfl) rfl rfl hl.1 rfl (lv_room (Nat.le_of_ble_eq_true rfl)) dX13_hold_78 ⟨Nat.le_of_ble_eq_true rfl, Nat.le_of_ble_eq_true rfl⟩) (fun r_32 hr_32 => ?_)
                  refine lv_goto (tgt := 85) hx hb dX13_hold_81 (by decide +kernel) ?_
                  refine lv_lstore (lv' := [(8, .long r_32), (7, .int z_29), (0, .ref h0), (1, .int x1), (2, .int x2), (3, .long x3), (5, .long x4)]) hx hb dX13_hold_85 hl (by decide +kernel) rfl (fun ls hl => ?_)
                  refine lv_aload_n hx hb dX13_hold_87 rfl (lv_at hl 2 rfl) ?_
                  refine va_get (D := D) (ci := 10) (v := .ref (a 38)) (C := RX13) (T := TX13) (N := 45) hx hb hts in_X13_hold_X13 hown hE.1 hP 0 rfl rfl 38 (by decide +kernel) (hts (.fieldLink RX13 117 "ClauseBookModel" "handSort" "[I") (List.mem_of_getElem? (i := 4) rfl)) (fun _ h9 => h9) rfl dX13_hold_88 ?_
                  refine lv_iload_n hx hb dX13_hold_91 rfl (lv_at hl 3 rfl) ?_
                  refine lv_iload_n hx hb dX13_hold_92 rfl (lv_at hl 4 rfl) ?_
                  refine va_iast hx hb hE.1 hP hD hS 1 0 rfl rfl (by rw [vp_in_iff]; first | omega | (subst_vars; omega)) dX13_hold_93 (fun H locs hP hD hS => ?_)
                  obtain ⟨hP, hD⟩ := wPD [(h0, .inr (10, (Value.int (q 0) :: Value.int (q 1) :: Value.int (q 2) :: Value.int (q 3) :: Value.int (q 4) :: Value.int (q 5) :: Value.int (q 6) :: Value.int (q 7) :: Value.ref (a 8) :: Value.ref (a 9) :: Value.ref (a 10) :: Value.ref (a 11) :: Value.ref (a 12) :: Value.ref (a 13) :: Value.int (q 14) :: Value.long v :: Value.long w :: Value.ref (a 17) :: Value.ref (a 18) :: Value.ref (a 19) :: Value.ref (a 20) :: Value.ref (a 21) :: Value.ref (a 22) :: Value.ref (a 23) :: Value.int (q 24) :: Value.ref (a 25) :: Value.int (q 26) :: Value.ref (a 27) :: Value.int (q 28) :: Value.int (q 29) :: Value.int (q 30) :: Value.int (q 31) :: Value.int (q 32) :: Value.int (q 33) :: Value.ref (a 34) :: Value.ref (a 35) :: Value.ref (a 36) :: Value.ref (a 37) :: Value.ref (a 38) :: Value.ref (a 39) :: Value.ref (a 40) :: Value.int (q 41) :: Value.ref (a 42) :: Value.int (q 43) :: Value.int (q 44) :: []))), ((a 38), .inl (T 0, 4, .inl (upd f38 (x1.toNatClampNeg) x2))), ((a 39), .inl (T 1, 4, .inr (.inl f39))), ((a 40), .inl (T 1, 4, .inr (.inl f40)))] hP hD rfl
                  refine lv_aload_n hx hb dX13_hold_94 rfl (lv_at hl 2 rfl) ?_
                  refine va_get (D := D) (ci := 10) (v := .ref (a 39)) (C := RX13) (T := TX13) (N := 45) hx hb hts in_X13_hold_X13 hown hE.1 hP 0 rfl rfl 39 (by decide +kernel) (hts (.fieldLink RX13 120 "ClauseBookModel" "handAbove" "[J") (List.mem_of_getElem? (i := 5) rfl)) (fun _ h9 => h9) rfl dX13_hold_95 ?_
                  refine lv_iload_n hx hb dX13_hold_98 rfl (lv_at hl 3 rfl) ?_
                  refine lv_lload_n hx hb dX13_hold_99 rfl (lv_at hl 5 rfl) ?_
                  refine lv_lload hx hb dX13_hold_100 (lv_at hl 0 rfl) ?_
                  refine lv_ldiv hx hb dX13_hold_102 (nz64 (by omega)) ?_
                  refine va_last hx hb hE.1 hP hD hS 2 1 rfl rfl (by rw [vp_in_iff]; first | omega | (subst_vars; omega)) dX13_hold_103 (fun H locs hP hD hS => ?_)
                  obtain ⟨hP, hD⟩ := wPD [(h0, .inr (10, (Value.int (q 0) :: Value.int (q 1) :: Value.int (q 2) :: Value.int (q 3) :: Value.int (q 4) :: Value.int (q 5) :: Value.int (q 6) :: Value.int (q 7) :: Value.ref (a 8) :: Value.ref (a 9) :: Value.ref (a 10) :: Value.ref (a 11) :: Value.ref (a 12) :: Value.ref (a 13) :: Value.int (q 14) :: Value.long v :: Value.long w :: Value.ref (a 17) :: Value.ref (a 18) :: Value.ref (a 19) :: Value.ref (a 20) :: Value.ref (a 21) :: Value.ref (a 22) :: Value.ref (a 23) :: Value.int (q 24) :: Value.ref (a 25) :: Value.int (q 26) :: Value.ref (a 27) :: Value.int (q 28) :: Value.int (q 29) :: Value.int (q 30) :: Value.int (q 31) :: Value.int (q 32) :: Value.int (q 33) :: Value.ref (a 34) :: Value.ref (a 35) :: Value.ref (a 36) :: Value.ref (a 37) :: Value.ref (a 38) :: Value.ref (a 39) :: Value.ref (a 40) :: Value.int (q 41) :: Value.ref (a 42) :: Value.int (q 43) :: Value.int (q 44) :: []))), ((a 38), .inl (T 0, 4, .inl (upd f38 (x1.toNatClampNeg) x2))), ((a 39), .inl (T 1, 4, .inr (.inl (vp_updL f39 (x1.toNatClampNeg) (x3 / r_32))))), ((a 40), .inl (T 1, 4, .inr (.inl f40)))] hP hD rfl
                  refine lv_aload_n hx hb dX13_hold_104 rfl (lv_at hl 2 rfl) ?_
                  refine va_get (D := D) (ci := 10) (v := .ref (a 40)) (C := RX13) (T := TX13) (N := 45) hx hb hts in_X13_hold_X13 hown hE.1 hP 0 rfl rfl 40 (by decide +kernel) (hts (.fieldLink RX13 123 "ClauseBookModel" "handBelow" "[J") (List.mem_of_getElem? (i := 6) rfl)) (fun _ h9 => h9) rfl dX13_hold_105 ?_
                  refine lv_iload_n hx hb dX13_hold_108 rfl (lv_at hl 3 rfl) ?_
                  refine lv_iload_n hx hb dX13_hold_109 rfl (lv_at hl 4 rfl) ?_
                  refine lv_iconst (v := 2) hx hb dX13_hold_110 (by decide +kernel) ?_
                  refine lv_icmp_ne (tgt := 122) hx hb dX13_hold_111 (by decide +kernel) (fun c_33 => ?_) (fun c_33 => ?_)
                  · rw [fa_eq] at c_33
                    try rw [ti_2] at c_33
                    refine lv_lconst (v := 1) hx hb dX13_hold_122 (by decide +kernel) ?_
                    refine va_last hx hb hE.1 hP hD hS 3 1 rfl rfl (by rw [vp_in_iff]; first | omega | (subst_vars; omega)) dX13_hold_123 (fun H locs hP hD hS => ?_)
                    obtain ⟨hP, hD⟩ := wPD [(h0, .inr (10, (Value.int (q 0) :: Value.int (q 1) :: Value.int (q 2) :: Value.int (q 3) :: Value.int (q 4) :: Value.int (q 5) :: Value.int (q 6) :: Value.int (q 7) :: Value.ref (a 8) :: Value.ref (a 9) :: Value.ref (a 10) :: Value.ref (a 11) :: Value.ref (a 12) :: Value.ref (a 13) :: Value.int (q 14) :: Value.long v :: Value.long w :: Value.ref (a 17) :: Value.ref (a 18) :: Value.ref (a 19) :: Value.ref (a 20) :: Value.ref (a 21) :: Value.ref (a 22) :: Value.ref (a 23) :: Value.int (q 24) :: Value.ref (a 25) :: Value.int (q 26) :: Value.ref (a 27) :: Value.int (q 28) :: Value.int (q 29) :: Value.int (q 30) :: Value.int (q 31) :: Value.int (q 32) :: Value.int (q 33) :: Value.ref (a 34) :: Value.ref (a 35) :: Value.ref (a 36) :: Value.ref (a 37) :: Value.ref (a 38) :: Value.ref (a 39) :: Value.ref (a 40) :: Value.int (q 41) :: Value.ref (a 42) :: Value.int (q 43) :: Value.int (q 44) :: []))), ((a 38), .inl (T 0, 4, .inl (upd f38 (x1.toNatClampNeg) x2))), ((a 39), .inl (T 1, 4, .inr (.inl (vp_updL f39 (x1.toNatClampNeg) (x3 / r_32))))), ((a 40), .inl (T 1, 4, .inr (.inl (vp_updL f40 (x1.toNatClampNeg) 1))))] hP hD rfl
                    refine lv_iload hx hb dX13_hold_124 (lv_at hl 1 rfl) ?_
                    exact W.iret hx hb hr (fun t ht hW => ⟨⟨_, ((upd f38 (x1.toNatClampNeg) x2), (vp_updL f39 (x1.toNatClampNeg) (x3 / r_32)), (vp_updL f40 (x1.toNatClampNeg) 1)), rfl, ⟨(show ∀ k : Nat, k < 4 → ((upd f38 (x1.toNatClampNeg) x2) k).toInt = 2 → 1 ≤ ((vp_updL f40 (x1.toNatClampNeg) 1) k).toInt from (hh_up hhd (fun h9 => by first | decide | exact div_pos64 (by omega) (by omega) | (exfalso; omega)))), (show holdR (q 7) x1 x2 z_29 x3 x4 f38 (upd f38 (x1.toNatClampNeg) x2) f39 (vp_updL f39 (x1.toNatClampNeg) (x3 / r_32)) from (Or.inr ⟨⟨by omega, by omega, (fun h9 => by omega), (fun h9 => by omega)⟩, ez_29, rfl, (fun h9 => by first | (simp only [vp_updL, if_pos]; exact l_div1 _) | (exfalso; omega)), (fun k hk => by simp only [vp_updL, if_neg hk])⟩)), (show holdG (q 7) x1 x2 x3 x4 f39 f40 (vp_updL f39 (x1.toNatClampNeg) (x3 / r_32)) (vp_updL f40 (x1.toNatClampNeg) 1) from (Or.inr ⟨⟨by omega, by omega, (fun h9 => by omega), (fun h9 => by omega)⟩, (fun h9 => by first | (exfalso; omega) | exact ⟨(by rw [updL_at, hr_32.1]; rfl), (by rw [updL_at, hr_32.1]; rfl)⟩), (fun k hk => by simp only [vp_updL, if_neg hk]; exact ⟨trivial, trivial⟩)⟩))⟩, by rw [ht]; exact hP.sub [0, 1, 2, 3] rfl, hD.sub [0, 1, 2, 3] (by decide +kernel) rfl⟩, hS.F ht⟩) hS.2.2 dX13_hold_126
                  · rw [fa_eq] at c_33
                    try rw [ti_2] at c_33
                    refine lv_lload hx hb dX13_hold_114 (lv_at hl 6 rfl) ?_
                    refine lv_lload hx hb dX13_hold_116 (lv_at hl 0 rfl) ?_
                    refine lv_ldiv hx hb dX13_hold_118 (nz64 (by omega)) ?_
                    refine lv_goto (tgt := 123) hx hb dX13_hold_119 (by decide +kernel) ?_
                    refine va_last hx hb hE.1 hP hD hS 3 1 rfl rfl (by rw [vp_in_iff]; first | omega | (subst_vars; omega)) dX13_hold_123 (fun H locs hP hD hS => ?_)
                    obtain ⟨hP, hD⟩ := wPD [(h0, .inr (10, (Value.int (q 0) :: Value.int (q 1) :: Value.int (q 2) :: Value.int (q 3) :: Value.int (q 4) :: Value.int (q 5) :: Value.int (q 6) :: Value.int (q 7) :: Value.ref (a 8) :: Value.ref (a 9) :: Value.ref (a 10) :: Value.ref (a 11) :: Value.ref (a 12) :: Value.ref (a 13) :: Value.int (q 14) :: Value.long v :: Value.long w :: Value.ref (a 17) :: Value.ref (a 18) :: Value.ref (a 19) :: Value.ref (a 20) :: Value.ref (a 21) :: Value.ref (a 22) :: Value.ref (a 23) :: Value.int (q 24) :: Value.ref (a 25) :: Value.int (q 26) :: Value.ref (a 27) :: Value.int (q 28) :: Value.int (q 29) :: Value.int (q 30) :: Value.int (q 31) :: Value.int (q 32) :: Value.int (q 33) :: Value.ref (a 34) :: Value.ref (a 35) :: Value.ref (a 36) :: Value.ref (a 37) :: Value.ref (a 38) :: Value.ref (a 39) :: Value.ref (a 40) :: Value.int (q 41) :: Value.ref (a 42) :: Value.int (q 43) :: Value.int (q 44) :: []))), ((a 38), .inl (T 0, 4, .inl (upd f38 (x1.toNatClampNeg) x2))), ((a 39), .inl (T 1, 4, .inr (.inl (vp_updL f39 (x1.toNatClampNeg) (x3 / r_32))))), ((a 40), .inl (T 1, 4, .inr (.inl (vp_updL f40 (x1.toNatClampNeg) (x4 / r_32)))))] hP hD rfl
                    refine lv_iload hx hb dX13_hold_124 (lv_at hl 1 rfl) ?_
                    exact W.iret hx hb hr (fun t ht hW => ⟨⟨_, ((upd f38 (x1.toNatClampNeg) x2), (vp_updL f39 (x1.toNatClampNeg) (x3 / r_32)), (vp_updL f40 (x1.toNatClampNeg) (x4 / r_32))), rfl, ⟨(show ∀ k : Nat, k < 4 → ((upd f38 (x1.toNatClampNeg) x2) k).toInt = 2 → 1 ≤ ((vp_updL f40 (x1.toNatClampNeg) (x4 / r_32)) k).toInt from (hh_up hhd (fun h9 => by first | decide | exact div_pos64 (by omega) (by omega) | (exfalso; omega)))), (show holdR (q 7) x1 x2 z_29 x3 x4 f38 (upd f38 (x1.toNatClampNeg) x2) f39 (vp_updL f39 (x1.toNatClampNeg) (x3 / r_32)) from (Or.inr ⟨⟨by omega, by omega, (fun h9 => by omega), (fun h9 => by omega)⟩, ez_29, rfl, (fun h9 => by first | (simp only [vp_updL, if_pos]; exact l_div1 _) | (exfalso; omega)), (fun k hk => by simp only [vp_updL, if_neg hk])⟩)), (show holdG (q 7) x1 x2 x3 x4 f39 f40 (vp_updL f39 (x1.toNatClampNeg) (x3 / r_32)) (vp_updL f40 (x1.toNatClampNeg) (x4 / r_32)) from (Or.inr ⟨⟨by omega, by omega, (fun h9 => by omega), (fun h9 => by omega)⟩, (fun h9 => by first | (exfalso; omega) | exact ⟨(by rw [updL_at, hr_32.1]; rfl), (by rw [updL_at, hr_32.1]; rfl)⟩), (fun k hk => by simp only [vp_updL, if_neg hk]; exact ⟨trivial, trivial⟩)⟩))⟩, by rw [ht]; exact hP.sub [0, 1, 2, 3] rfl, hD.sub [0, 1, 2, 3] (by decide +kernel) rfl⟩, hS.F ht⟩) hS.2.2 dX13_hold_126
              · rw [lcmp_eq] at c_28
                try rw [tl_min] at c_28
                refine lv_bipush (v := (-2)) hx hb dX13_hold_59 (by decide +kernel) ?_
                exact W.iret hx hb hr (fun t ht hW => ⟨⟨_, (f38, f39, f40), rfl, ⟨(show ∀ k : Nat, k < 4 → (f38 k).toInt = 2 → 1 ≤ (f40 k).toInt from hhd), (show holdR (q 7) x1 x2 ((-2) : Int32) x3 x4 f38 f38 f39 f39 from (Or.inl ⟨(fun h9 => by obtain ⟨h1, h2, h3, h4⟩ := h9; first | (clear h3 h4; omega) | (have h5 := h3 (by clear h3 h4; omega); clear h3 h4; omega) | (have h5 := h4 (by clear h3 h4; omega); clear h3 h4; omega)), (by decide +kernel), rfl, rfl⟩)), (show holdG (q 7) x1 x2 x3 x4 f39 f40 f39 f40 from (Or.inl ⟨(fun h9 => by obtain ⟨h1, h2, h3, h4⟩ := h9; first | (clear h3 h4; omega) | (have h5 := h3 (by clear h3 h4; omega); clear h3 h4; omega) | (have h5 := h4 (by clear h3 h4; omega); clear h3 h4; omega)), rfl, rfl⟩))⟩, by rw [ht]; exact hP.sub [0, 1, 2, 3] rfl, hD.sub [0, 1, 2, 3] (by decide +kernel) rfl⟩, hS.F ht⟩) hS.2.2 dX13_hold_61
        · refine lv_if_eq (tgt := 59) hx hb dX13_hold_36 (by decide +kernel) (fun _ => ?_) (fun c9 => absurd c9 (by decide +kernel))
          refine lv_bipush (v := (-2)) hx hb dX13_hold_59 (by decide +kernel) ?_
          exact W.iret hx hb hr (fun t ht hW => ⟨⟨_, (f38, f39, f40), rfl, ⟨(show ∀ k : Nat, k < 4 → (f38 k).toInt = 2 → 1 ≤ (f40 k).toInt from hhd), (show holdR (q 7) x1 x2 ((-2) : Int32) x3 x4 f38 f38 f39 f39 from (Or.inl ⟨(fun h9 => by obtain ⟨h1, h2, h3, h4⟩ := h9; first | (clear h3 h4; omega) | (have h5 := h3 (by clear h3 h4; omega); clear h3 h4; omega) | (have h5 := h4 (by clear h3 h4; omega); clear h3 h4; omega)), (by decide +kernel), rfl, rfl⟩)), (show holdG (q 7) x1 x2 x3 x4 f39 f40 f39 f40 from (Or.inl ⟨(fun h9 => by obtain ⟨h1, h2, h3, h4⟩ := h9; first | (clear h3 h4; omega) | (have h5 := h3 (by clear h3 h4; omega); clear h3 h4; omega) | (have h5 := h4 (by clear h3 h4; omega); clear h3 h4; omega)), rfl, rfl⟩))⟩, by rw [ht]; exact hP.sub [0, 1, 2, 3] rfl, hD.sub [0, 1, 2, 3] (by decide +kernel) rfl⟩, hS.F ht⟩) hS.2.2 dX13_hold_61
    · refine lv_if_eq (tgt := 59) hx hb dX13_hold_16 (by decide +kernel) (fun _ => ?_) (fun c9 => absurd c9 (by decide +kernel))
      refine lv_bipush (v := (-2)) hx hb dX13_hold_59 (by decide +kernel) ?_
      exact W.iret hx hb hr (fun t ht hW => ⟨⟨_, (f38, f39, f40), rfl, ⟨(show ∀ k : Nat, k < 4 → (f38 k).toInt = 2 → 1 ≤ (f40 k).toInt from hhd), (show holdR (q 7) x1 x2 ((-2) : Int32) x3 x4 f38 f38 f39 f39 from (Or.inl ⟨(fun h9 => by obtain ⟨h1, h2, h3, h4⟩ := h9; first | (clear h3 h4; omega) | (have h5 := h3 (by clear h3 h4; omega); clear h3 h4; omega) | (have h5 := h4 (by clear h3 h4; omega); clear h3 h4; omega)), (by decide +kernel), rfl, rfl⟩)), (show holdG (q 7) x1 x2 x3 x4 f39 f40 f39 f40 from (Or.inl ⟨(fun h9 => by obtain ⟨h1, h2, h3, h4⟩ := h9; first | (clear h3 h4; omega) | (have h5 := h3 (by clear h3 h4; omega); clear h3 h4; omega) | (have h5 := h4 (by clear h3 h4; omega); clear h3 h4; omega)), rfl, rfl⟩))⟩, by rw [ht]; exact hP.sub [0, 1, 2, 3] rfl, hD.sub [0, 1, 2, 3] (by decide +kernel) rfl⟩, hS.F ht⟩) hS.2.2 dX13_hold_61
  · refine lv_if_eq (tgt := 59) hx hb dX13_hold_4 (by decide +kernel) (fun _ => ?_) (fun c9 => absurd c9 (by decide +kernel))
    refine lv_bipush (v := (-2)) hx hb dX13_hold_59 (by decide +kernel) ?_
    exact W.iret hx hb hr (fun t ht hW => ⟨⟨_, (f38, f39, f40), rfl, ⟨(show ∀ k : Nat, k < 4 → (f38 k).toInt = 2 → 1 ≤ (f40 k).toInt from hhd), (show holdR (q 7) x1 x2 ((-2) : Int32) x3 x4 f38 f38 f39 f39 from (Or.inl ⟨(fun h9 => by obtain ⟨h1, h2, h3, h4⟩ := h9; first | (clear h3 h4; omega) | (have h5 := h3 (by clear h3 h4; omega); clear h3 h4; omega) | (have h5 := h4 (by clear h3 h4; omega); clear h3 h4; omega)), (by decide +kernel), rfl, rfl⟩)), (show holdG (q 7) x1 x2 x3 x4 f39 f40 f39 f40 from (Or.inl ⟨(fun h9 => by obtain ⟨h1, h2, h3, h4⟩ := h9; first | (clear h3 h4; omega) | (have h5 := h3 (by clear h3 h4; omega); clear h3 h4; omega) | (have h5 := h4 (by clear h3 h4; omega); clear h3 h4; omega)), rfl, rfl⟩))⟩, by rw [ht]; exact hP.sub [0, 1, 2, 3] rfl, hD.sub [0, 1, 2, 3] (by decide +kernel) rfl⟩, hS.F ht⟩) hS.2.2 dX13_hold_61
theorem dX13_asClause_0 : decode cX13_asClause 0 = .ok (.iload_n 1, 1) := by decide +kernel
theorem dX13_asClause_1 : decode cX13_asClause 1 = .ok (.invokestatic 417, 3) := by decide +kernel
theorem dX13_asClause_10 : decode cX13_asClause 10 = .ok (.ldc2_w 408, 3) := by decide +kernel
theorem dX13_asClause_13 : decode cX13_asClause 13 = .ok (.invokestatic 175, 3) := by decide +kernel
theorem dX13_asClause_16 : decode cX13_asClause 16 = .ok (.ifCond .ne 6, 3) := by decide +kernel
theorem dX13_asClause_19 : decode cX13_asClause 19 = .ok (.bipush (-2), 2) := by decide +kernel
theorem dX13_asClause_21 : decode cX13_asClause 21 = .ok (.ireturn, 1) := by decide +kernel
theorem dX13_asClause_22 : decode cX13_asClause 22 = .ok (.aload_n 0, 1) := by decide +kernel
theorem dX13_asClause_23 : decode cX13_asClause 23 = .ok (.iload_n 1, 1) := by decide +kernel
theorem dX13_asClause_24 : decode cX13_asClause 24 = .ok (.iconst 1, 1) := by decide +kernel
theorem dX13_asClause_25 : decode cX13_asClause 25 = .ok (.invokevirtual 420, 3) := by decide +kernel
theorem dX13_asClause_28 : decode cX13_asClause 28 = .ok (.istore_n 3, 1) := by decide +kernel
theorem dX13_asClause_29 : decode cX13_asClause 29 = .ok (.iload_n 3, 1) := by decide +kernel
theorem dX13_asClause_30 : decode cX13_asClause 30 = .ok (.ifCond .eq 5, 3) := by decide +kernel
theorem dX13_asClause_33 : decode cX13_asClause 33 = .ok (.iload_n 3, 1) := by decide +kernel
theorem dX13_asClause_34 : decode cX13_asClause 34 = .ok (.ireturn, 1) := by decide +kernel
theorem dX13_asClause_35 : decode cX13_asClause 35 = .ok (.aload_n 0, 1) := by decide +kernel
theorem dX13_asClause_36 : decode cX13_asClause 36 = .ok (.getfield 120, 3) := by decide +kernel
theorem dX13_asClause_39 : decode cX13_asClause 39 = .ok (.iload_n 1, 1) := by decide +kernel
theorem dX13_asClause_4 : decode cX13_asClause 4 = .ok (.ifCond .eq 15, 3) := by decide +kernel
theorem dX13_asClause_40 : decode cX13_asClause 40 = .ok (.laload, 1) := by decide +kernel
theorem dX13_asClause_41 : decode cX13_asClause 41 = .ok (.l2i, 1) := by decide +kernel
theorem dX13_asClause_42 : decode cX13_asClause 42 = .ok (.istore 4, 2) := by decide +kernel
theorem dX13_asClause_44 : decode cX13_asClause 44 = .ok (.aload_n 0, 1) := by decide +kernel
theorem dX13_asClause_45 : decode cX13_asClause 45 = .ok (.iload 4, 2) := by decide +kernel
theorem dX13_asClause_47 : decode cX13_asClause 47 = .ok (.invokevirtual 233, 3) := by decide +kernel
theorem dX13_asClause_50 : decode cX13_asClause 50 = .ok (.ifCond .ne 6, 3) := by decide +kernel
theorem dX13_asClause_53 : decode cX13_asClause 53 = .ok (.bipush (-11), 2) := by decide +kernel
theorem dX13_asClause_55 : decode cX13_asClause 55 = .ok (.ireturn, 1) := by decide +kernel
theorem dX13_asClause_56 : decode cX13_asClause 56 = .ok (.iload_n 2, 1) := by decide +kernel
theorem dX13_asClause_57 : decode cX13_asClause 57 = .ok (.iconst 3, 1) := by decide +kernel
theorem dX13_asClause_58 : decode cX13_asClause 58 = .ok (.if_icmp .eq 17, 3) := by decide +kernel
theorem dX13_asClause_61 : decode cX13_asClause 61 = .ok (.aload_n 0, 1) := by decide +kernel
theorem dX13_asClause_62 : decode cX13_asClause 62 = .ok (.getfield 28, 3) := by decide +kernel
theorem dX13_asClause_65 : decode cX13_asClause 65 = .ok (.iload 4, 2) := by decide +kernel
theorem dX13_asClause_67 : decode cX13_asClause 67 = .ok (.iaload, 1) := by decide +kernel
theorem dX13_asClause_68 : decode cX13_asClause 68 = .ok (.invokestatic 210, 3) := by decide +kernel
theorem dX13_asClause_7 : decode cX13_asClause 7 = .ok (.iload_n 2, 1) := by decide +kernel
theorem dX13_asClause_71 : decode cX13_asClause 71 = .ok (.iload_n 2, 1) := by decide +kernel
theorem dX13_asClause_72 : decode cX13_asClause 72 = .ok (.if_icmp .ne 13, 3) := by decide +kernel
theorem dX13_asClause_75 : decode cX13_asClause 75 = .ok (.aload_n 0, 1) := by decide +kernel
theorem dX13_asClause_76 : decode cX13_asClause 76 = .ok (.getfield 28, 3) := by decide +kernel
theorem dX13_asClause_79 : decode cX13_asClause 79 = .ok (.iload 4, 2) := by decide +kernel
theorem dX13_asClause_8 : decode cX13_asClause 8 = .ok (.i2l, 1) := by decide +kernel
theorem dX13_asClause_81 : decode cX13_asClause 81 = .ok (.iaload, 1) := by decide +kernel
theorem dX13_asClause_82 : decode cX13_asClause 82 = .ok (.goto 5, 3) := by decide +kernel
theorem dX13_asClause_85 : decode cX13_asClause 85 = .ok (.bipush (-13), 2) := by decide +kernel
theorem dX13_asClause_87 : decode cX13_asClause 87 = .ok (.ireturn, 1) := by decide +kernel
theorem dX13_asClause_9 : decode cX13_asClause 9 = .ok (.lconst 0, 1) := by decide +kernel
set_option maxRecDepth 20000 in
theorem ggX13_asClause_X13_in : GoodIn wsX13_asClause wsX13_in := goodIn_r _ [10] rfl (by decide +kernel)
set_option maxRecDepth 20000 in
theorem ggX13_asClause_X13_isClause : GoodIn wsX13_asClause wsX13_isClause := goodIn_r _ [19, 20, 8, 9, 6, 10, 24, 25, 26, 27, 28, 29, 30, 31, 32, 33, 34, 35, 36, 37, 38, 39, 40, 41, 42, 43, 44, 45, 46, 47, 48, 49, 50, 51, 52, 53, 54, 55, 56, 57, 58, 59, 60, 61, 62, 63, 64, 65, 66, 67, 68] rfl (by decide +kernel)
set_option maxRecDepth 20000 in
theorem ggX13_asClause_X13_isHand : GoodIn wsX13_asClause wsX13_isHand := goodIn_r _ [7, 1, 8, 9, 6, 10] rfl (by decide +kernel)
set_option maxRecDepth 20000 in
theorem ggX13_asClause_X13_lacks : GoodIn wsX13_asClause wsX13_lacks := goodIn_r _ [14, 15, 24, 25, 26, 27, 28, 29, 30, 31, 32, 33, 34, 35, 36, 37, 38, 39, 40, 41, 42, 43, 44, 45, 46, 47, 48, 49, 50, 51, 52, 53, 54, 55, 56, 57, 58, 59, 60, 61, 62, 63, 64, 65, 66, 67, 68] rfl (by decide +kernel)
set_option maxRecDepth 20000 in
theorem ggX13_asClause_X13_names : GoodIn wsX13_asClause wsX13_names := goodIn_r _ [23] rfl (by decide +kernel)
set_option maxRecDepth 20000 in
theorem gX13_asClause_X13_in : GoodIn wsX13_asClause (va_wsS RX13 175 yX13_in wsX13_in) := goodIn_app (goodIn_of _ (by decide +kernel)) ggX13_asClause_X13_in
set_option maxRecDepth 20000 in
theorem gX13_asClause_X13_isClause : GoodIn wsX13_asClause (wsV RX13 233 RX13 yX13_isClause wsX13_isClause) := goodIn_app (goodIn_r _ [16, 17, 18, 6] rfl (by decide +kernel)) ggX13_asClause_X13_isClause
set_option maxRecDepth 20000 in
theorem gX13_asClause_X13_isHand : GoodIn wsX13_asClause (va_wsS RX13 417 yX13_isHand wsX13_isHand) := goodIn_app (goodIn_of _ (by decide +kernel)) ggX13_asClause_X13_isHand
set_option maxRecDepth 20000 in
theorem gX13_asClause_X13_lacks : GoodIn wsX13_asClause (wsV RX13 420 RX13 yX13_lacks wsX13_lacks) := goodIn_app (goodIn_r _ [11, 12, 13, 6] rfl (by decide +kernel)) ggX13_asClause_X13_lacks
set_option maxRecDepth 20000 in
theorem gX13_asClause_X13_names : GoodIn wsX13_asClause (va_wsS RX13 210 yX13_names wsX13_names) := goodIn_app (goodIn_of _ (by decide +kernel)) ggX13_asClause_X13_names
theorem hv_X13_lacks : yX13_lacks.cls = RX13 ∧ yX13_lacks.cls ≠ "java/lang/invoke/MethodHandle" ∧ yX13_lacks.cls ≠ "java/lang/invoke/VarHandle" ∧ (parseMethodDescriptor yX13_lacks.desc).map (fun d => d.parameters.length) = some 2 := by decide +kernel
set_option maxRecDepth 20000 in
theorem in_X13_asClause_X13 : ∀ w ∈ wsX130, w ∈ wsX13_asClause := sub_r [24, 25, 26, 27, 28, 29, 30, 31, 32, 33, 34, 35, 36, 37, 38, 39, 40, 41, 42, 43, 44, 45, 46, 47, 48, 49, 50, 51, 52, 53, 54, 55, 56, 57, 58, 59, 60, 61, 62, 63, 64, 65, 66, 67, 68] rfl
set_option maxHeartbeats 4000000 in
set_option maxRecDepth 100000 in
theorem c_X13_asClause (l : Launch) (D : va_G) (T : Nat → ClassId) (sz : Nat) (h0 : Nat) (q : Nat → Int32) (v : Int64) (w : Int64) (a : Nat → Nat) (f8 : Nat → Int32) (f10 : Nat → Int32) (f11 : Nat → Int32) (f38 : Nat → Int32) (f39 : Nat → Int64) (x1 : Int32) (x2 : Int32) (hm : 0 ≤ (q 7).toInt ∧ (q 7).toInt ≤ 24) (hokR : okR f8 f10 f11) : Met l yX13_asClause wsX13_asClause ({ frames := 2, cells := 0, slots := 0, locals := 46 }) (pW [.ref h0, .int x1, .int x2] D T [(h0, .inr (10, (Value.int (q 0) :: Value.int (q 1) :: Value.int (q 2) :: Value.int (q 3) :: Value.int (q 4) :: Value.int (q 5) :: Value.int (q 6) :: Value.int (q 7) :: Value.ref (a 8) :: Value.ref (a 9) :: Value.ref (a 10) :: Value.ref (a 11) :: Value.ref (a 12) :: Value.ref (a 13) :: Value.int (q 14) :: Value.long v :: Value.long w :: Value.ref (a 17) :: Value.ref (a 18) :: Value.ref (a 19) :: Value.ref (a 20) :: Value.ref (a 21) :: Value.ref (a 22) :: Value.ref (a 23) :: Value.int (q 24) :: Value.ref (a 25) :: Value.int (q 26) :: Value.ref (a 27) :: Value.int (q 28) :: Value.int (q 29) :: Value.int (q 30) :: Value.int (q 31) :: Value.int (q 32) :: Value.int (q 33) :: Value.ref (a 34) :: Value.ref (a 35) :: Value.ref (a 36) :: Value.ref (a 37) :: Value.ref (a 38) :: Value.ref (a 39) :: Value.ref (a 40) :: Value.int (q 41) :: Value.ref (a 42) :: Value.int (q 43) :: Value.int (q 44) :: []))), ((a 8), .inl (T 0, 24, .inl f8)), ((a 10), .inl (T 0, 24, .inl f10)), ((a 11), .inl (T 0, 24, .inl f11)), ((a 38), .inl (T 0, 4, .inl f38)), ((a 39), .inl (T 1, 4, .inr (.inl f39)))] sz) (va_Qi (fun (r : Int32) (u : Unit) => (asCl (q 7) x1 x2 (f38 x1.toNatClampNeg) ((f39 x1.toNatClampNeg).toInt32) f8 r)) (bW D (va_A [(h0, .inr (10, (Value.int (q 0) :: Value.int (q 1) :: Value.int (q 2) :: Value.int (q 3) :: Value.int (q 4) :: Value.int (q 5) :: Value.int (q 6) :: Value.int (q 7) :: Value.ref (a 8) :: Value.ref (a 9) :: Value.ref (a 10) :: Value.ref (a 11) :: Value.ref (a 12) :: Value.ref (a 13) :: Value.int (q 14) :: Value.long v :: Value.long w :: Value.ref (a 17) :: Value.ref (a 18) :: Value.ref (a 19) :: Value.ref (a 20) :: Value.ref (a 21) :: Value.ref (a 22) :: Value.ref (a 23) :: Value.int (q 24) :: Value.ref (a 25) :: Value.int (q 26) :: Value.ref (a 27) :: Value.int (q 28) :: Value.int (q 29) :: Value.int (q 30) :: Value.int (q 31) :: Value.int (q 32) :: Value.int (q 33) :: Value.ref (a 34) :: Value.ref (a 35) :: Value.ref (a 36) :: Value.ref (a 37) :: Value.ref (a 38) :: Value.ref (a 39) :: Value.ref (a 40) :: Value.int (q 41) :: Value.ref (a 42) :: Value.int (q 43) :: Value.int (q 44) :: []))), ((a 8), .inl (T 0, 24, .inl f8)), ((a 10), .inl (T 0, 24, .inl f10)), ((a 11), .inl (T 0, 24, .inl f11)), ((a 38), .inl (T 0, 4, .inl f38)), ((a 39), .inl (T 1, 4, .inr (.inl f39)))] sz) (fun (u : Unit) => [(h0, .inr (10, (Value.int (q 0) :: Value.int (q 1) :: Value.int (q 2) :: Value.int (q 3) :: Value.int (q 4) :: Value.int (q 5) :: Value.int (q 6) :: Value.int (q 7) :: Value.ref (a 8) :: Value.ref (a 9) :: Value.ref (a 10) :: Value.ref (a 11) :: Value.ref (a 12) :: Value.ref (a 13) :: Value.int (q 14) :: Value.long v :: Value.long w :: Value.ref (a 17) :: Value.ref (a 18) :: Value.ref (a 19) :: Value.ref (a 20) :: Value.ref (a 21) :: Value.ref (a 22) :: Value.ref (a 23) :: Value.int (q 24) :: Value.ref (a 25) :: Value.int (q 26) :: Value.ref (a 27) :: Value.int (q 28) :: Value.int (q 29) :: Value.int (q 30) :: Value.int (q 31) :: Value.int (q 32) :: Value.int (q 33) :: Value.ref (a 34) :: Value.ref (a 35) :: Value.ref (a 36) :: Value.ref (a 37) :: Value.ref (a 38) :: Value.ref (a 39) :: Value.ref (a 40) :: Value.int (q 41) :: Value.ref (a 42) :: Value.int (q 43) :: Value.int (q 44) :: []))), ((a 8), .inl (T 0, 24, .inl f8)), ((a 10), .inl (T 0, 24, .inl f10)), ((a 11), .inl (T 0, 24, .inl f11)), ((a 38), .inl (T 0, 4, .inl f38)), ((a 39), .inl (T 1, 4, .inr (.inl f39)))])) (va_A [(h0, .inr (10, (Value.int (q 0) :: Value.int (q 1) :: Value.int (q 2) :: Value.int (q 3) :: Value.int (q 4) :: Value.int (q 5) :: Value.int (q 6) :: Value.int (q 7) :: Value.ref (a 8) :: Value.ref (a 9) :: Value.ref (a 10) :: Value.ref (a 11) :: Value.ref (a 12) :: Value.ref (a 13) :: Value.int (q 14) :: Value.long v :: Value.long w :: Value.ref (a 17) :: Value.ref (a 18) :: Value.ref (a 19) :: Value.ref (a 20) :: Value.ref (a 21) :: Value.ref (a 22) :: Value.ref (a 23) :: Value.int (q 24) :: Value.ref (a 25) :: Value.int (q 26) :: Value.ref (a 27) :: Value.int (q 28) :: Value.int (q 29) :: Value.int (q 30) :: Value.int (q 31) :: Value.int (q 32) :: Value.int (q 33) :: Value.ref (a 34) :: Value.ref (a 35) :: Value.ref (a 36) :: Value.ref (a 37) :: Value.ref (a 38) :: Value.ref (a 39) :: Value.ref (a 40) :: Value.int (q 41) :: Value.ref (a 42) :: Value.int (q 43) :: Value.int (q 44) :: []))), ((a 8), .inl (T 0, 24, .inl f8)), ((a 10), .inl (T 0, 24, .inl f10)), ((a 11), .inl (T 0, 24, .inl f11)), ((a 38), .inl (T 0, 4, .inl f38)), ((a 39), .inl (T 1, 4, .inr (.inl f39)))] sz)) 0 0 (va_A [(h0, .inr (10, (Value.int (q 0) :: Value.int (q 1) :: Value.int (q 2) :: Value.int (q 3) :: Value.int (q 4) :: Value.int (q 5) :: Value.int (q 6) :: Value.int (q 7) :: Value.ref (a 8) :: Value.ref (a 9) :: Value.ref (a 10) :: Value.ref (a 11) :: Value.ref (a 12) :: Value.ref (a 13) :: Value.int (q 14) :: Value.long v :: Value.long w :: Value.ref (a 17) :: Value.ref (a 18) :: Value.ref (a 19) :: Value.ref (a 20) :: Value.ref (a 21) :: Value.ref (a 22) :: Value.ref (a 23) :: Value.int (q 24) :: Value.ref (a 25) :: Value.int (q 26) :: Value.ref (a 27) :: Value.int (q 28) :: Value.int (q 29) :: Value.int (q 30) :: Value.int (q 31) :: Value.int (q 32) :: Value.int (q 33) :: Value.ref (a 34) :: Value.ref (a 35) :: Value.ref (a 36) :: Value.ref (a 37) :: Value.ref (a 38) :: Value.ref (a 39) :: Value.ref (a 40) :: Value.int (q 41) :: Value.ref (a 42) :: Value.int (q 43) :: Value.int (q 44) :: []))), ((a 8), .inl (T 0, 24, .inl f8)), ((a 10), .inl (T 0, 24, .inl f10)), ((a 11), .inl (T 0, 24, .inl f11)), ((a 38), .inl (T 0, 4, .inl f38)), ((a 39), .inl (T 1, 4, .inr (.inl f39)))] sz) := by
  refine Met.ofW (cc := cX13_asClause) (maxL := 5) (ret := (some .int)) (by decide +kernel) rfl ?_
  intro p e s m args below meth c s₁ B hml hv
  obtain ⟨rfl, hsz, hP, hE, hD0⟩ := hv
  have hx := B.exec
  have hb := B.bytes
  have hr := B.returns
  have hts := atoms_spec (ws := wsX13_asClause) B.pre
  have hown : s.vm.findClass RX13 = some m.cls := findClass_of_methodNamed B.named
  have hlocks := B.notSynchronized
  subst hsz
  have hD := hD0.self (sz := s.heap.size)
  generalize hAe : va_A [(h0, .inr (10, (Value.int (q 0) :: Value.int (q 1) :: Value.int (q 2) :: Value.int (q 3) :: Value.int (q 4) :: Value.int (q 5) :: Value.int (q 6) :: Value.int (q 7) :: Value.ref (a 8) :: Value.ref (a 9) :: Value.ref (a 10) :: Value.ref (a 11) :: Value.ref (a 12) :: Value.ref (a 13) :: Value.int (q 14) :: Value.long v :: Value.long w :: Value.ref (a 17) :: Value.ref (a 18) :: Value.ref (a 19) :: Value.ref (a 20) :: Value.ref (a 21) :: Value.ref (a 22) :: Value.ref (a 23) :: Value.int (q 24) :: Value.ref (a 25) :: Value.int (q 26) :: Value.ref (a 27) :: Value.int (q 28) :: Value.int (q 29) :: Value.int (q 30) :: Value.int (q 31) :: Value.int (q 32) :: Value.int (q 33) :: Value.ref (a 34) :: Value.ref (a 35) :: Value.ref (a 36) :: Value.ref (a 37) :: Value.ref (a 38) :: Value.ref (a 39) :: Value.ref (a 40) :: Value.int (q 41) :: Value.ref (a 42) :: Value.int (q 43) :: Value.int (q 44) :: []))), ((a 8), .inl (T 0, 24, .inl f8)), ((a 10), .inl (T 0, 24, .inl f10)), ((a 11), .inl (T 0, 24, .inl f11)), ((a 38), .inl (T 0, 4, .inl f38)), ((a 39), .inl (T 1, 4, .inr (.inl f39)))] s.heap.size = A at hD ⊢
  have hA : ∀ q : Nat, s.heap.size ≤ q → A q := fun q h => by rw [← hAe]; exact Or.inr h
  have hS : va_S A s.heap s.heap [] := va_S.rf
  have hP : va_P D vwCl [(h0, .inr (10, (Value.int (q 0) :: Value.int (q 1) :: Value.int (q 2) :: Value.int (q 3) :: Value.int (q 4) :: Value.int (q 5) :: Value.int (q 6) :: Value.int (q 7) :: Value.ref (a 8) :: Value.ref (a 9) :: Value.ref (a 10) :: Value.ref (a 11) :: Value.ref (a 12) :: Value.ref (a 13) :: Value.int (q 14) :: Value.long v :: Value.long w :: Value.ref (a 17) :: Value.ref (a 18) :: Value.ref (a 19) :: Value.ref (a 20) :: Value.ref (a 21) :: Value.ref (a 22) :: Value.ref (a 23) :: Value.int (q 24) :: Value.ref (a 25) :: Value.int (q 26) :: Value.ref (a 27) :: Value.int (q 28) :: Value.int (q 29) :: Value.int (q 30) :: Value.int (q 31) :: Value.int (q 32) :: Value.int (q 33) :: Value.ref (a 34) :: Value.ref (a 35) :: Value.ref (a 36) :: Value.ref (a 37) :: Value.ref (a 38) :: Value.ref (a 39) :: Value.ref (a 40) :: Value.int (q 41) :: Value.ref (a 42) :: Value.int (q 43) :: Value.int (q 44) :: []))), ((a 8), .inl (T 0, 24, .inl f8)), ((a 10), .inl (T 0, 24, .inl f10)), ((a 11), .inl (T 0, 24, .inl f11)), ((a 38), .inl (T 0, 4, .inl f38)), ((a 39), .inl (T 1, 4, .inr (.inl f39)))] s.heap := hP
  have hl := lv_entry ([.ref h0, .int x1, .int x2]) (n := 5) (Nat.le_of_ble_eq_true rfl)
  rw [lg_entry_eq]
  generalize (lg_sl ([.ref h0, .int x1, .int x2]) ++ List.replicate (5 - (lg_sl ([.ref h0, .int x1, .int x2])).length) Slot.unset).toArray = ls at hl ⊢
  have hl : lv_has ls 5 [(0, .ref h0), (1, .int x1), (2, .int x2)] := hl
  clear hD0
  refine lv_iload_n hx hb dX13_asClause_0 rfl (lv_at hl 1 rfl) ?_
  refine vp_callSi (W.runS (As := [.int x1]) (rest := []) ⟨hx, hb, hml, hown, hts⟩ (c_X13_isHand l D T x1) (va_cwS 1 hts gX13_asClause_X13_isHand rfl rfl rfl hs_X13_isHand ⟨Nat.le_of_ble_eq_true rfl, Nat.le_of_ble_eq_true rfl⟩) (pR_S hP hE [] rfl) rfl rfl hl.1 rfl (lv_room (Nat.le_of_ble_eq_true rfl)) dX13_asClause_1 ⟨Nat.le_of_ble_eq_true rfl, Nat.le_of_ble_eq_true rfl⟩) (fun r_1 hr_1 => ?_)
  rcases bool_post hr_1 with ⟨c_2, rfl⟩ | ⟨c_2, rfl⟩
  · refine lv_if_eq (tgt := 19) hx hb dX13_asClause_4 (by decide +kernel) (fun c9 => absurd c9 (by decide +kernel)) (fun _ => ?_)
    refine lv_iload_n hx hb dX13_asClause_7 rfl (lv_at hl 2 rfl) ?_
    refine lv_i2l hx hb dX13_asClause_8 rfl ?_
    refine lv_lconst (v := 0) hx hb dX13_asClause_9 (by decide +kernel) ?_
    refine lv_ldc2 (v := 3) hx hb hown (hts (.constantLong RX13 408 (3)) (List.mem_of_getElem? (i := 1) rfl)) dX13_asClause_10 ?_
    refine vp_callSi (W.runS (As := [.long (x2.toInt64), .long 0, .long 3]) (rest := []) ⟨hx, hb, hml, hown, hts⟩ (c_X13_in l D T (x2.toInt64) 0 3 x2.toInt 0 3 ((Int32.toInt_toInt64 _).trans rfl) (by decide +kernel) (by decide +kernel)) (va_cwS 3 hts gX13_asClause_X13_in rfl rfl rfl hs_X13_in ⟨Nat.le_of_ble_eq_true rfl, Nat.le_of_ble_eq_true rfl⟩) (pR_S hP hE [] rfl) rfl rfl hl.1 rfl (lv_room (Nat.le_of_ble_eq_true rfl)) dX13_asClause_13 ⟨Nat.le_of_ble_eq_true rfl, Nat.le_of_ble_eq_true rfl⟩) (fun r_3 hr_3 => ?_)
    rcases bool_post hr_3 with ⟨c_4, rfl⟩ | ⟨c_4, rfl⟩
    · refine lv_if_ne (tgt := 22) hx hb dX13_asClause_16 (by decide +kernel) (fun _ => ?_) (fun c9 => absurd c9 (by decide +kernel))
      refine lv_aload_n hx hb dX13_asClause_22 rfl (lv_at hl 0 rfl) ?_
      refine lv_iload_n hx hb dX13_asClause_23 rfl (lv_at hl 1 rfl) ?_
      refine lv_iconst (v := 1) hx hb dX13_asClause_24 (by decide +kernel) ?_
      refine vp_callSi (W.runV (As := [.int x1, .int 1]) (rest := []) ⟨hx, hb, hml, hown, hts⟩ (c_X13_lacks l D T h0 [.int (q 0), .int (q 1), .int (q 2), .int (q 3), .int (q 4), .int (q 5), .int (q 6), .int (q 7), .ref (a 8), .ref (a 9), .ref (a 10), .ref (a 11), .ref (a 12), .ref (a 13), .int (q 14), .long v, .long w, .ref (a 17), .ref (a 18), .ref (a 19), .ref (a 20), .ref (a 21), .ref (a 22), .ref (a 23), .int (q 24), .ref (a 25), .int (q 26), .ref (a 27), .int (q 28), .int (q 29), .int (q 30), .int (q 31), .int (q 32), .int (q 33), .ref (a 34), .ref (a 35), .ref (a 36), .ref (a 37), .ref (a 38), .ref (a 39), .ref (a 40), .int (q 41), .ref (a 42), .int (q 43), .int (q 44)] (a 38) f38 x1 1 rfl (by omega)) (cwV 2 hts gX13_asClause_X13_lacks rfl rfl rfl hv_X13_lacks ⟨Nat.le_of_ble_eq_true rfl, Nat.le_of_ble_eq_true rfl⟩) (pR_V (q := (RX13, TX13, 45)) (ci := 10) (q0 := 0) hP hE rfl rfl [0, 4] rfl) rfl rfl hl.1 rfl (lv_room (Nat.le_of_ble_eq_true rfl)) dX13_asClause_25 ⟨Nat.le_of_ble_eq_true rfl, Nat.le_of_ble_eq_true rfl⟩) (fun r_5 hr_5 => ?_)
      refine lv_istore_n (lv' := [(3, .int r_5), (0, .ref h0), (1, .int x1), (2, .int x2)]) hx hb dX13_asClause_28 rfl hl (by decide +kernel) rfl (fun ls hl => ?_)
      refine lv_iload_n hx hb dX13_asClause_29 rfl (lv_at hl 0 rfl) ?_
      refine lv_if_eq (tgt := 35) hx hb dX13_asClause_30 (by decide +kernel) (fun c_6 => ?_) (fun c_6 => ?_)
      · rw [fa_eq] at c_6
        try rw [ti_0] at c_6
        refine lv_aload_n hx hb dX13_asClause_35 rfl (lv_at hl 1 rfl) ?_
        refine va_get (D := D) (ci := 10) (v := .ref (a 39)) (C := RX13) (T := TX13) (N := 45) hx hb hts in_X13_asClause_X13 hown hE.1 hP 0 rfl rfl 39 (by decide +kernel) (hts (.fieldLink RX13 120 "ClauseBookModel" "handAbove" "[J") (List.mem_of_getElem? (i := 2) rfl)) (fun _ h9 => h9) rfl dX13_asClause_36 ?_
        refine lv_iload_n hx hb dX13_asClause_39 rfl (lv_at hl 2 rfl) ?_
        refine va_lald hx hb hE.1 hP 5 1 rfl rfl (by rw [vp_in_iff]; first | omega | (subst_vars; omega)) dX13_asClause_40 ?_
        refine lv_topl (fun z_7 ez_7 => ?_)
        refine lv_l2i hx hb dX13_asClause_41 rfl ?_
        refine lv_istore (lv' := [(4, .int (z_7.toInt32)), (3, .int r_5), (0, .ref h0), (1, .int x1), (2, .int x2)]) hx hb dX13_asClause_42 hl (by decide +kernel) rfl (fun ls hl => ?_)
        have hx9 : (z_7.toInt32) = (f39 x1.toNatClampNeg).toInt32 := by rw [ez_7]
        refine lv_aload_n hx hb dX13_asClause_44 rfl (lv_at hl 2 rfl) ?_
        refine lv_iload hx hb dX13_asClause_45 (lv_at hl 0 rfl) ?_
        refine vp_callSi (W.runV (As := [.int (z_7.toInt32)]) (rest := []) ⟨hx, hb, hml, hown, hts⟩ (c_X13_isClause l D T h0 [.int (q 0), .int (q 1), .int (q 2), .int (q 3), .int (q 4), .int (q 5), .int (q 6), .int (q 7), .ref (a 8), .ref (a 9), .ref (a 10), .ref (a 11), .ref (a 12), .ref (a 13), .int (q 14), .long v, .long w, .ref (a 17), .ref (a 18), .ref (a 19), .ref (a 20), .ref (a 21), .ref (a 22), .ref (a 23), .int (q 24), .ref (a 25), .int (q 26), .ref (a 27), .int (q 28), .int (q 29), .int (q 30), .int (q 31), .int (q 32), .int (q 33), .ref (a 34), .ref (a 35), .ref (a 36), .ref (a 37), .ref (a 38), .ref (a 39), .ref (a 40), .int (q 41), .ref (a 42), .int (q 43), .int (q 44)] (z_7.toInt32) (q 7) rfl (by omega)) (cwV 1 hts gX13_asClause_X13_isClause rfl rfl rfl hv_X13_isClause ⟨Nat.le_of_ble_eq_true rfl, Nat.le_of_ble_eq_true rfl⟩) (pR_V (q := (RX13, TX13, 45)) (ci := 10) (q0 := 0) hP hE rfl rfl [0] rfl) rfl rfl hl.1 rfl (lv_room (Nat.le_of_ble_eq_true rfl)) dX13_asClause_47 ⟨Nat.le_of_ble_eq_true rfl, Nat.le_of_ble_eq_true rfl⟩) (fun r_8 hr_8 => ?_)
        rcases bool_post hr_8 with ⟨c_9, rfl⟩ | ⟨c_9, rfl⟩
        · refine lv_if_ne (tgt := 56) hx hb dX13_asClause_50 (by decide +kernel) (fun _ => ?_) (fun c9 => absurd c9 (by decide +kernel))
          refine lv_iload_n hx hb dX13_asClause_56 rfl (lv_at hl 4 rfl) ?_
          refine lv_iconst (v := 3) hx hb dX13_asClause_57 (by decide +kernel) ?_
          refine lv_icmp_eq (tgt := 75) hx hb dX13_asClause_58 (by decide +kernel) (fun c_10 => ?_) (fun c_10 => ?_)
          · rw [fa_eq] at c_10
            try rw [ti_3] at c_10
            refine lv_aload_n hx hb dX13_asClause_75 rfl (lv_at hl 2 rfl) ?_
            refine va_get (D := D) (ci := 10) (v := .ref (a 8)) (C := RX13) (T := TX13) (N := 45) hx hb hts in_X13_asClause_X13 hown hE.1 hP 0 rfl rfl 8 (by decide +kernel) (hts (.fieldLink RX13 28 "ClauseBookModel" "kind" "[I") (List.mem_of_getElem? (i := 3) rfl)) (fun _ h9 => h9) rfl dX13_asClause_76 ?_
            refine lv_iload hx hb dX13_asClause_79 (lv_at hl 0 rfl) ?_
            refine va_iald hx hb hE.1 hP 1 0 rfl rfl (by rw [vp_in_iff]; first | omega | (subst_vars; omega)) dX13_asClause_81 ?_
            refine lv_topi (fun z_11 ez_11 => ?_)
            refine lv_goto (tgt := 87) hx hb dX13_asClause_82 (by decide +kernel) ?_
            exact W.iret hx hb hr (fun t ht hW => ⟨⟨_, (), rfl, (show asCl (q 7) x1 x2 (f38 x1.toNatClampNeg) ((f39 x1.toNatClampNeg).toInt32) f8 z_11 from (Or.inr ⟨(by omega), Or.inr (Or.inr (Or.inr (Or.inr ⟨(show (f38 x1.toNatClampNeg).toInt = 1 from (hr_5.1 (by omega)).trans ti_1), (show 0 ≤ ((f39 x1.toNatClampNeg).toInt32).toInt ∧ ((f39 x1.toNatClampNeg).toInt32).toInt < (q 7).toInt from by rw [← hx9]; omega), (show ¬ (¬ x2.toInt = 3 ∧ ¬ (nmT (f8 ((f39 x1.toNatClampNeg).toInt32).toNatClampNeg).toNatClampNeg).toInt = x2.toInt) from fun h9 => by first | omega | (have h8 := h9.2; rw [← hx9, ← hnz9] at h8; omega)), (by rw [ez_11, hx9])⟩)))⟩)), by rw [ht]; exact hP.sub [0, 1, 2, 3, 4, 5] rfl, hD.sub [0, 1, 2, 3, 4, 5] (by decide +kernel) rfl⟩, hS.F ht⟩) hS.2.2 dX13_asClause_87
          · rw [fa_eq] at c_10
            try rw [ti_3] at c_10
            refine lv_aload_n hx hb dX13_asClause_61 rfl (lv_at hl 2 rfl) ?_
            refine va_get (D := D) (ci := 10) (v := .ref (a 8)) (C := RX13) (T := TX13) (N := 45) hx hb hts in_X13_asClause_X13 hown hE.1 hP 0 rfl rfl 8 (by decide +kernel) (hts (.fieldLink RX13 28 "ClauseBookModel" "kind" "[I") (List.mem_of_getElem? (i := 3) rfl)) (fun _ h9 => h9) rfl dX13_asClause_62 ?_
            refine lv_iload hx hb dX13_asClause_65 (lv_at hl 0 rfl) ?_
            refine va_iald hx hb hE.1 hP 1 0 rfl rfl (by rw [vp_in_iff]; first | omega | (subst_vars; omega)) dX13_asClause_67 ?_
            refine lv_topi (fun z_12 ez_12 => ?_)
            have hkz_12 : 0 ≤ z_12.toInt ∧ z_12.toInt ≤ 12 := by rw [ez_12]; exact (hokR _ (in24 (x := (z_7.toInt32)) (by omega)).1).1
            refine vp_callSi (W.runS (As := [.int z_12]) (rest := []) ⟨hx, hb, hml, hown, hts⟩ (c_X13_names l D T z_12 (by omega)) (va_cwS 1 hts gX13_asClause_X13_names rfl rfl rfl hs_X13_names ⟨Nat.le_of_ble_eq_true rfl, Nat.le_of_ble_eq_true rfl⟩) (pR_S hP hE [] rfl) rfl rfl hl.1 rfl (lv_room (Nat.le_of_ble_eq_true rfl)) dX13_asClause_68 ⟨Nat.le_of_ble_eq_true rfl, Nat.le_of_ble_eq_true rfl⟩) (fun r_13 hr_13 => ?_)
            have hnz9 : r_13.toInt = (nmT (f8 ((z_7.toInt32).toNatClampNeg)).toNatClampNeg).toInt := by rw [hr_13.1, ez_12]
            refine lv_iload_n hx hb dX13_asClause_71 rfl (lv_at hl 4 rfl) ?_
            refine lv_icmp_ne (tgt := 85) hx hb dX13_asClause_72 (by decide +kernel) (fun c_14 => ?_) (fun c_14 => ?_)
            · rw [fa_eq] at c_14
              refine lv_bipush (v := (-13)) hx hb dX13_asClause_85 (by decide +kernel) ?_
              exact W.iret hx hb hr (fun t ht hW => ⟨⟨_, (), rfl, (show asCl (q 7) x1 x2 (f38 x1.toNatClampNeg) ((f39 x1.toNatClampNeg).toInt32) f8 ((-13) : Int32) from (Or.inr ⟨(by omega), Or.inr (Or.inr (Or.inr (Or.inl ⟨(show (f38 x1.toNatClampNeg).toInt = 1 from (hr_5.1 (by omega)).trans ti_1), (show 0 ≤ ((f39 x1.toNatClampNeg).toInt32).toInt ∧ ((f39 x1.toNatClampNeg).toInt32).toInt < (q 7).toInt from by rw [← hx9]; omega), ⟨by omega, (show ¬ (nmT (f8 ((f39 x1.toNatClampNeg).toInt32).toNatClampNeg).toNatClampNeg).toInt = x2.toInt from by rw [← hx9, ← hnz9]; omega)⟩, (by decide +kernel)⟩)))⟩)), by rw [ht]; exact hP.sub [0, 1, 2, 3, 4, 5] rfl, hD.sub [0, 1, 2, 3, 4, 5] (by decide +kernel) rfl⟩, hS.F ht⟩) hS.2.2 dX13_asClause_87
            · rw [fa_eq] at c_14
              refine lv_aload_n hx hb dX13_asClause_75 rfl (lv_at hl 2 rfl) ?_
              refine va_get (D := D) (ci := 10) (v := .ref (a 8)) (C := RX13) (T := TX13) (N := 45) hx hb hts in_X13_asClause_X13 hown hE.1 hP 0 rfl rfl 8 (by decide +kernel) (hts (.fieldLink RX13 28 "ClauseBookModel" "kind" "[I") (List.mem_of_getElem? (i := 3) rfl)) (fun _ h9 => h9) rfl dX13_asClause_76 ?_
              refine lv_iload hx hb dX13_asClause_79 (lv_at hl 0 rfl) ?_
              refine va_iald hx hb hE.1 hP 1 0 rfl rfl (by rw [vp_in_iff]; first | omega | (subst_vars; omega)) dX13_asClause_81 ?_
              refine lv_topi (fun z_15 ez_15 => ?_)
              refine lv_goto (tgt := 87) hx hb dX13_asClause_82 (by decide +kernel) ?_
              exact W.iret hx hb hr (fun t ht hW => ⟨⟨_, (), rfl, (show asCl (q 7) x1 x2 (f38 x1.toNatClampNeg) ((f39 x1.toNatClampNeg).toInt32) f8 z_15 from (Or.inr ⟨(by omega), Or.inr (Or.inr (Or.inr (Or.inr ⟨(show (f38 x1.toNatClampNeg).toInt = 1 from (hr_5.1 (by omega)).trans ti_1), (show 0 ≤ ((f39 x1.toNatClampNeg).toInt32).toInt ∧ ((f39 x1.toNatClampNeg).toInt32).toInt < (q 7).toInt from by rw [← hx9]; omega), (show ¬ (¬ x2.toInt = 3 ∧ ¬ (nmT (f8 ((f39 x1.toNatClampNeg).toInt32).toNatClampNeg).toNatClampNeg).toInt = x2.toInt) from fun h9 => by first | omega | (have h8 := h9.2; rw [← hx9, ← hnz9] at h8; omega)), (by rw [ez_15, hx9])⟩)))⟩)), by rw [ht]; exact hP.sub [0, 1, 2, 3, 4, 5] rfl, hD.sub [0, 1, 2, 3, 4, 5] (by decide +kernel) rfl⟩, hS.F ht⟩) hS.2.2 dX13_asClause_87
        · refine lv_if_ne (tgt := 56) hx hb dX13_asClause_50 (by decide +kernel) (fun c9 => absurd c9 (by decide +kernel)) (fun _ => ?_)
          refine lv_bipush (v := (-11)) hx hb dX13_asClause_53 (by decide +kernel) ?_
          exact W.iret hx hb hr (fun t ht hW => ⟨⟨_, (), rfl, (show asCl (q 7) x1 x2 (f38 x1.toNatClampNeg) ((f39 x1.toNatClampNeg).toInt32) f8 ((-11) : Int32) from (Or.inr ⟨(by omega), Or.inr (Or.inr (Or.inl ⟨(show (f38 x1.toNatClampNeg).toInt = 1 from (hr_5.1 (by omega)).trans ti_1), (show ¬ (0 ≤ ((f39 x1.toNatClampNeg).toInt32).toInt ∧ ((f39 x1.toNatClampNeg).toInt32).toInt < (q 7).toInt) from by rw [← hx9]; omega), (by decide +kernel)⟩))⟩)), by rw [ht]; exact hP.sub [0, 1, 2, 3, 4, 5] rfl, hD.sub [0, 1, 2, 3, 4, 5] (by decide +kernel) rfl⟩, hS.F ht⟩) hS.2.2 dX13_asClause_55
      · rw [fa_eq] at c_6
        try rw [ti_0] at c_6
        refine lv_iload_n hx hb dX13_asClause_33 rfl (lv_at hl 0 rfl) ?_
        exact W.iret hx hb hr (fun t ht hW => ⟨⟨_, (), rfl, (show asCl (q 7) x1 x2 (f38 x1.toNatClampNeg) ((f39 x1.toNatClampNeg).toInt32) f8 r_5 from (Or.inr ⟨(by omega), (by have h8 := hr_5.2; first | exact Or.inl ⟨by omega, by omega⟩ | exact Or.inr (Or.inl ⟨by omega, by omega, by omega⟩) | (rcases h8 with h8 | h8 | h8 <;> first | exact Or.inl ⟨h8.1, h8.2⟩ | exact Or.inr (Or.inl ⟨h8.1, (by have h7 := h8.2.1; have h6 := ti_1; omega), h8.2.2⟩) | (exfalso; omega)))⟩)), by rw [ht]; exact hP.sub [0, 1, 2, 3, 4, 5] rfl, hD.sub [0, 1, 2, 3, 4, 5] (by decide +kernel) rfl⟩, hS.F ht⟩) hS.2.2 dX13_asClause_34
    · refine lv_if_ne (tgt := 22) hx hb dX13_asClause_16 (by decide +kernel) (fun c9 => absurd c9 (by decide +kernel)) (fun _ => ?_)
      refine lv_bipush (v := (-2)) hx hb dX13_asClause_19 (by decide +kernel) ?_
      exact W.iret hx hb hr (fun t ht hW => ⟨⟨_, (), rfl, (show asCl (q 7) x1 x2 (f38 x1.toNatClampNeg) ((f39 x1.toNatClampNeg).toInt32) f8 ((-2) : Int32) from (Or.inl ⟨(by omega), (by decide +kernel)⟩)), by rw [ht]; exact hP.sub [0, 1, 2, 3, 4, 5] rfl, hD.sub [0, 1, 2, 3, 4, 5] (by decide +kernel) rfl⟩, hS.F ht⟩) hS.2.2 dX13_asClause_21
  · refine lv_if_eq (tgt := 19) hx hb dX13_asClause_4 (by decide +kernel) (fun _ => ?_) (fun c9 => absurd c9 (by decide +kernel))
    refine lv_bipush (v := (-2)) hx hb dX13_asClause_19 (by decide +kernel) ?_
    exact W.iret hx hb hr (fun t ht hW => ⟨⟨_, (), rfl, (show asCl (q 7) x1 x2 (f38 x1.toNatClampNeg) ((f39 x1.toNatClampNeg).toInt32) f8 ((-2) : Int32) from (Or.inl ⟨(by omega), (by decide +kernel)⟩)), by rw [ht]; exact hP.sub [0, 1, 2, 3, 4, 5] rfl, hD.sub [0, 1, 2, 3, 4, 5] (by decide +kernel) rfl⟩, hS.F ht⟩) hS.2.2 dX13_asClause_21
theorem dX13_asFraction_0 : decode cX13_asFraction 0 = .ok (.iload_n 1, 1) := by decide +kernel
theorem dX13_asFraction_1 : decode cX13_asFraction 1 = .ok (.invokestatic 417, 3) := by decide +kernel
theorem dX13_asFraction_10 : decode cX13_asFraction 10 = .ok (.lconst 1, 1) := by decide +kernel
theorem dX13_asFraction_11 : decode cX13_asFraction 11 = .ok (.invokestatic 175, 3) := by decide +kernel
theorem dX13_asFraction_14 : decode cX13_asFraction 14 = .ok (.ifCond .ne 9, 3) := by decide +kernel
theorem dX13_asFraction_17 : decode cX13_asFraction 17 = .ok (.bipush (-2), 2) := by decide +kernel
theorem dX13_asFraction_19 : decode cX13_asFraction 19 = .ok (.invokestatic 270, 3) := by decide +kernel
theorem dX13_asFraction_22 : decode cX13_asFraction 22 = .ok (.lreturn, 1) := by decide +kernel
theorem dX13_asFraction_23 : decode cX13_asFraction 23 = .ok (.aload_n 0, 1) := by decide +kernel
theorem dX13_asFraction_24 : decode cX13_asFraction 24 = .ok (.iload_n 1, 1) := by decide +kernel
theorem dX13_asFraction_25 : decode cX13_asFraction 25 = .ok (.iconst 2, 1) := by decide +kernel
theorem dX13_asFraction_26 : decode cX13_asFraction 26 = .ok (.invokevirtual 420, 3) := by decide +kernel
theorem dX13_asFraction_29 : decode cX13_asFraction 29 = .ok (.istore_n 3, 1) := by decide +kernel
theorem dX13_asFraction_30 : decode cX13_asFraction 30 = .ok (.iload_n 3, 1) := by decide +kernel
theorem dX13_asFraction_31 : decode cX13_asFraction 31 = .ok (.ifCond .eq 10, 3) := by decide +kernel
theorem dX13_asFraction_34 : decode cX13_asFraction 34 = .ok (.iload_n 3, 1) := by decide +kernel
theorem dX13_asFraction_35 : decode cX13_asFraction 35 = .ok (.invokestatic 270, 3) := by decide +kernel
theorem dX13_asFraction_38 : decode cX13_asFraction 38 = .ok (.goto 22, 3) := by decide +kernel
theorem dX13_asFraction_4 : decode cX13_asFraction 4 = .ok (.ifCond .eq 13, 3) := by decide +kernel
theorem dX13_asFraction_41 : decode cX13_asFraction 41 = .ok (.iload_n 2, 1) := by decide +kernel
theorem dX13_asFraction_42 : decode cX13_asFraction 42 = .ok (.ifCond .ne 12, 3) := by decide +kernel
theorem dX13_asFraction_45 : decode cX13_asFraction 45 = .ok (.aload_n 0, 1) := by decide +kernel
theorem dX13_asFraction_46 : decode cX13_asFraction 46 = .ok (.getfield 120, 3) := by decide +kernel
theorem dX13_asFraction_49 : decode cX13_asFraction 49 = .ok (.iload_n 1, 1) := by decide +kernel
theorem dX13_asFraction_50 : decode cX13_asFraction 50 = .ok (.laload, 1) := by decide +kernel
theorem dX13_asFraction_51 : decode cX13_asFraction 51 = .ok (.goto 9, 3) := by decide +kernel
theorem dX13_asFraction_54 : decode cX13_asFraction 54 = .ok (.aload_n 0, 1) := by decide +kernel
theorem dX13_asFraction_55 : decode cX13_asFraction 55 = .ok (.getfield 123, 3) := by decide +kernel
theorem dX13_asFraction_58 : decode cX13_asFraction 58 = .ok (.iload_n 1, 1) := by decide +kernel
theorem dX13_asFraction_59 : decode cX13_asFraction 59 = .ok (.laload, 1) := by decide +kernel
theorem dX13_asFraction_60 : decode cX13_asFraction 60 = .ok (.lreturn, 1) := by decide +kernel
theorem dX13_asFraction_7 : decode cX13_asFraction 7 = .ok (.iload_n 2, 1) := by decide +kernel
theorem dX13_asFraction_8 : decode cX13_asFraction 8 = .ok (.i2l, 1) := by decide +kernel
theorem dX13_asFraction_9 : decode cX13_asFraction 9 = .ok (.lconst 0, 1) := by decide +kernel
set_option maxRecDepth 20000 in
theorem ggX13_asFraction_X13_in : GoodIn wsX13_asFraction wsX13_in := goodIn_r _ [10] rfl (by decide +kernel)
set_option maxRecDepth 20000 in
theorem ggX13_asFraction_X13_isHand : GoodIn wsX13_asFraction wsX13_isHand := goodIn_r _ [6, 7, 8, 9, 5, 10] rfl (by decide +kernel)
set_option maxRecDepth 20000 in
theorem ggX13_asFraction_X13_lacks : GoodIn wsX13_asFraction wsX13_lacks := goodIn_r _ [18, 19, 20, 21, 22, 23, 24, 25, 26, 27, 28, 29, 30, 31, 32, 33, 34, 35, 36, 37, 38, 39, 40, 41, 42, 43, 44, 45, 46, 47, 48, 49, 50, 51, 52, 53, 54, 55, 56, 57, 58, 59, 60, 61, 62, 63, 64] rfl (by decide +kernel)
set_option maxRecDepth 20000 in
theorem ggX13_asFraction_X13_refused : GoodIn wsX13_asFraction wsX13_refused := goodIn_r _ [13, 14] rfl (by decide +kernel)
set_option maxRecDepth 20000 in
theorem gX13_asFraction_X13_in : GoodIn wsX13_asFraction (va_wsS RX13 175 yX13_in wsX13_in) := goodIn_app (goodIn_of _ (by decide +kernel)) ggX13_asFraction_X13_in
set_option maxRecDepth 20000 in
theorem gX13_asFraction_X13_isHand : GoodIn wsX13_asFraction (va_wsS RX13 417 yX13_isHand wsX13_isHand) := goodIn_app (goodIn_of _ (by decide +kernel)) ggX13_asFraction_X13_isHand
set_option maxRecDepth 20000 in
theorem gX13_asFraction_X13_lacks : GoodIn wsX13_asFraction (wsV RX13 420 RX13 yX13_lacks wsX13_lacks) := goodIn_app (goodIn_r _ [15, 16, 17, 5] rfl (by decide +kernel)) ggX13_asFraction_X13_lacks
set_option maxRecDepth 20000 in
theorem gX13_asFraction_X13_refused : GoodIn wsX13_asFraction (va_wsS RX13 270 yX13_refused wsX13_refused) := goodIn_app (goodIn_of _ (by decide +kernel)) ggX13_asFraction_X13_refused
set_option maxRecDepth 20000 in
theorem in_X13_asFraction_X13 : ∀ w ∈ wsX130, w ∈ wsX13_asFraction := sub_r [20, 21, 22, 23, 24, 25, 26, 27, 28, 29, 30, 31, 32, 33, 34, 35, 36, 37, 38, 39, 40, 41, 42, 43, 44, 45, 46, 47, 48, 49, 50, 51, 52, 53, 54, 55, 56, 57, 58, 59, 60, 61, 62, 63, 64] rfl
set_option maxHeartbeats 4000000 in
set_option maxRecDepth 100000 in
theorem c_X13_asFraction (l : Launch) (D : va_G) (T : Nat → ClassId) (sz : Nat) (h0 : Nat) (q : Nat → Int32) (v : Int64) (w : Int64) (a : Nat → Nat) (f38 : Nat → Int32) (f39 : Nat → Int64) (f40 : Nat → Int64) (x1 : Int32) (x2 : Int32)  : Met l yX13_asFraction wsX13_asFraction ({ frames := 2, cells := 0, slots := 0, locals := 45 }) (pW [.ref h0, .int x1, .int x2] D T [(h0, .inr (10, (Value.int (q 0) :: Value.int (q 1) :: Value.int (q 2) :: Value.int (q 3) :: Value.int (q 4) :: Value.int (q 5) :: Value.int (q 6) :: Value.int (q 7) :: Value.ref (a 8) :: Value.ref (a 9) :: Value.ref (a 10) :: Value.ref (a 11) :: Value.ref (a 12) :: Value.ref (a 13) :: Value.int (q 14) :: Value.long v :: Value.long w :: Value.ref (a 17) :: Value.ref (a 18) :: Value.ref (a 19) :: Value.ref (a 20) :: Value.ref (a 21) :: Value.ref (a 22) :: Value.ref (a 23) :: Value.int (q 24) :: Value.ref (a 25) :: Value.int (q 26) :: Value.ref (a 27) :: Value.int (q 28) :: Value.int (q 29) :: Value.int (q 30) :: Value.int (q 31) :: Value.int (q 32) :: Value.int (q 33) :: Value.ref (a 34) :: Value.ref (a 35) :: Value.ref (a 36) :: Value.ref (a 37) :: Value.ref (a 38) :: Value.ref (a 39) :: Value.ref (a 40) :: Value.int (q 41) :: Value.ref (a 42) :: Value.int (q 43) :: Value.int (q 44) :: []))), ((a 38), .inl (T 0, 4, .inl f38)), ((a 39), .inl (T 1, 4, .inr (.inl f39))), ((a 40), .inl (T 1, 4, .inr (.inl f40)))] sz) (va_Ql (fun (r : Int64) (u : Unit) => (asFr x1 x2 (f38 x1.toNatClampNeg) (f39 x1.toNatClampNeg) (f40 x1.toNatClampNeg) r)) (bW D (va_A [(h0, .inr (10, (Value.int (q 0) :: Value.int (q 1) :: Value.int (q 2) :: Value.int (q 3) :: Value.int (q 4) :: Value.int (q 5) :: Value.int (q 6) :: Value.int (q 7) :: Value.ref (a 8) :: Value.ref (a 9) :: Value.ref (a 10) :: Value.ref (a 11) :: Value.ref (a 12) :: Value.ref (a 13) :: Value.int (q 14) :: Value.long v :: Value.long w :: Value.ref (a 17) :: Value.ref (a 18) :: Value.ref (a 19) :: Value.ref (a 20) :: Value.ref (a 21) :: Value.ref (a 22) :: Value.ref (a 23) :: Value.int (q 24) :: Value.ref (a 25) :: Value.int (q 26) :: Value.ref (a 27) :: Value.int (q 28) :: Value.int (q 29) :: Value.int (q 30) :: Value.int (q 31) :: Value.int (q 32) :: Value.int (q 33) :: Value.ref (a 34) :: Value.ref (a 35) :: Value.ref (a 36) :: Value.ref (a 37) :: Value.ref (a 38) :: Value.ref (a 39) :: Value.ref (a 40) :: Value.int (q 41) :: Value.ref (a 42) :: Value.int (q 43) :: Value.int (q 44) :: []))), ((a 38), .inl (T 0, 4, .inl f38)), ((a 39), .inl (T 1, 4, .inr (.inl f39))), ((a 40), .inl (T 1, 4, .inr (.inl f40)))] sz) (fun (u : Unit) => [(h0, .inr (10, (Value.int (q 0) :: Value.int (q 1) :: Value.int (q 2) :: Value.int (q 3) :: Value.int (q 4) :: Value.int (q 5) :: Value.int (q 6) :: Value.int (q 7) :: Value.ref (a 8) :: Value.ref (a 9) :: Value.ref (a 10) :: Value.ref (a 11) :: Value.ref (a 12) :: Value.ref (a 13) :: Value.int (q 14) :: Value.long v :: Value.long w :: Value.ref (a 17) :: Value.ref (a 18) :: Value.ref (a 19) :: Value.ref (a 20) :: Value.ref (a 21) :: Value.ref (a 22) :: Value.ref (a 23) :: Value.int (q 24) :: Value.ref (a 25) :: Value.int (q 26) :: Value.ref (a 27) :: Value.int (q 28) :: Value.int (q 29) :: Value.int (q 30) :: Value.int (q 31) :: Value.int (q 32) :: Value.int (q 33) :: Value.ref (a 34) :: Value.ref (a 35) :: Value.ref (a 36) :: Value.ref (a 37) :: Value.ref (a 38) :: Value.ref (a 39) :: Value.ref (a 40) :: Value.int (q 41) :: Value.ref (a 42) :: Value.int (q 43) :: Value.int (q 44) :: []))), ((a 38), .inl (T 0, 4, .inl f38)), ((a 39), .inl (T 1, 4, .inr (.inl f39))), ((a 40), .inl (T 1, 4, .inr (.inl f40)))])) (va_A [(h0, .inr (10, (Value.int (q 0) :: Value.int (q 1) :: Value.int (q 2) :: Value.int (q 3) :: Value.int (q 4) :: Value.int (q 5) :: Value.int (q 6) :: Value.int (q 7) :: Value.ref (a 8) :: Value.ref (a 9) :: Value.ref (a 10) :: Value.ref (a 11) :: Value.ref (a 12) :: Value.ref (a 13) :: Value.int (q 14) :: Value.long v :: Value.long w :: Value.ref (a 17) :: Value.ref (a 18) :: Value.ref (a 19) :: Value.ref (a 20) :: Value.ref (a 21) :: Value.ref (a 22) :: Value.ref (a 23) :: Value.int (q 24) :: Value.ref (a 25) :: Value.int (q 26) :: Value.ref (a 27) :: Value.int (q 28) :: Value.int (q 29) :: Value.int (q 30) :: Value.int (q 31) :: Value.int (q 32) :: Value.int (q 33) :: Value.ref (a 34) :: Value.ref (a 35) :: Value.ref (a 36) :: Value.ref (a 37) :: Value.ref (a 38) :: Value.ref (a 39) :: Value.ref (a 40) :: Value.int (q 41) :: Value.ref (a 42) :: Value.int (q 43) :: Value.int (q 44) :: []))), ((a 38), .inl (T 0, 4, .inl f38)), ((a 39), .inl (T 1, 4, .inr (.inl f39))), ((a 40), .inl (T 1, 4, .inr (.inl f40)))] sz)) 0 0 (va_A [(h0, .inr (10, (Value.int (q 0) :: Value.int (q 1) :: Value.int (q 2) :: Value.int (q 3) :: Value.int (q 4) :: Value.int (q 5) :: Value.int (q 6) :: Value.int (q 7) :: Value.ref (a 8) :: Value.ref (a 9) :: Value.ref (a 10) :: Value.ref (a 11) :: Value.ref (a 12) :: Value.ref (a 13) :: Value.int (q 14) :: Value.long v :: Value.long w :: Value.ref (a 17) :: Value.ref (a 18) :: Value.ref (a 19) :: Value.ref (a 20) :: Value.ref (a 21) :: Value.ref (a 22) :: Value.ref (a 23) :: Value.int (q 24) :: Value.ref (a 25) :: Value.int (q 26) :: Value.ref (a 27) :: Value.int (q 28) :: Value.int (q 29) :: Value.int (q 30) :: Value.int (q 31) :: Value.int (q 32) :: Value.int (q 33) :: Value.ref (a 34) :: Value.ref (a 35) :: Value.ref (a 36) :: Value.ref (a 37) :: Value.ref (a 38) :: Value.ref (a 39) :: Value.ref (a 40) :: Value.int (q 41) :: Value.ref (a 42) :: Value.int (q 43) :: Value.int (q 44) :: []))), ((a 38), .inl (T 0, 4, .inl f38)), ((a 39), .inl (T 1, 4, .inr (.inl f39))), ((a 40), .inl (T 1, 4, .inr (.inl f40)))] sz) := by
  refine Met.ofW (cc := cX13_asFraction) (maxL := 4) (ret := (some .long)) (by decide +kernel) rfl ?_
  intro p e s m args below meth c s₁ B hml hv
  obtain ⟨rfl, hsz, hP, hE, hD0⟩ := hv
  have hx := B.exec
  have hb := B.bytes
  have hr := B.returns
  have hts := atoms_spec (ws := wsX13_asFraction) B.pre
  have hown : s.vm.findClass RX13 = some m.cls := findClass_of_methodNamed B.named
  have hlocks := B.notSynchronized
  subst hsz
  have hD := hD0.self (sz := s.heap.size)
  generalize hAe : va_A [(h0, .inr (10, (Value.int (q 0) :: Value.int (q 1) :: Value.int (q 2) :: Value.int (q 3) :: Value.int (q 4) :: Value.int (q 5) :: Value.int (q 6) :: Value.int (q 7) :: Value.ref (a 8) :: Value.ref (a 9) :: Value.ref (a 10) :: Value.ref (a 11) :: Value.ref (a 12) :: Value.ref (a 13) :: Value.int (q 14) :: Value.long v :: Value.long w :: Value.ref (a 17) :: Value.ref (a 18) :: Value.ref (a 19) :: Value.ref (a 20) :: Value.ref (a 21) :: Value.ref (a 22) :: Value.ref (a 23) :: Value.int (q 24) :: Value.ref (a 25) :: Value.int (q 26) :: Value.ref (a 27) :: Value.int (q 28) :: Value.int (q 29) :: Value.int (q 30) :: Value.int (q 31) :: Value.int (q 32) :: Value.int (q 33) :: Value.ref (a 34) :: Value.ref (a 35) :: Value.ref (a 36) :: Value.ref (a 37) :: Value.ref (a 38) :: Value.ref (a 39) :: Value.ref (a 40) :: Value.int (q 41) :: Value.ref (a 42) :: Value.int (q 43) :: Value.int (q 44) :: []))), ((a 38), .inl (T 0, 4, .inl f38)), ((a 39), .inl (T 1, 4, .inr (.inl f39))), ((a 40), .inl (T 1, 4, .inr (.inl f40)))] s.heap.size = A at hD ⊢
  have hA : ∀ q : Nat, s.heap.size ≤ q → A q := fun q h => by rw [← hAe]; exact Or.inr h
  have hS : va_S A s.heap s.heap [] := va_S.rf
  have hP : va_P D vwCl [(h0, .inr (10, (Value.int (q 0) :: Value.int (q 1) :: Value.int (q 2) :: Value.int (q 3) :: Value.int (q 4) :: Value.int (q 5) :: Value.int (q 6) :: Value.int (q 7) :: Value.ref (a 8) :: Value.ref (a 9) :: Value.ref (a 10) :: Value.ref (a 11) :: Value.ref (a 12) :: Value.ref (a 13) :: Value.int (q 14) :: Value.long v :: Value.long w :: Value.ref (a 17) :: Value.ref (a 18) :: Value.ref (a 19) :: Value.ref (a 20) :: Value.ref (a 21) :: Value.ref (a 22) :: Value.ref (a 23) :: Value.int (q 24) :: Value.ref (a 25) :: Value.int (q 26) :: Value.ref (a 27) :: Value.int (q 28) :: Value.int (q 29) :: Value.int (q 30) :: Value.int (q 31) :: Value.int (q 32) :: Value.int (q 33) :: Value.ref (a 34) :: Value.ref (a 35) :: Value.ref (a 36) :: Value.ref (a 37) :: Value.ref (a 38) :: Value.ref (a 39) :: Value.ref (a 40) :: Value.int (q 41) :: Value.ref (a 42) :: Value.int (q 43) :: Value.int (q 44) :: []))), ((a 38), .inl (T 0, 4, .inl f38)), ((a 39), .inl (T 1, 4, .inr (.inl f39))), ((a 40), .inl (T 1, 4, .inr (.inl f40)))] s.heap := hP
  have hl := lv_entry ([.ref h0, .int x1, .int x2]) (n := 4) (Nat.le_of_ble_eq_true rfl)
  rw [lg_entry_eq]
  generalize (lg_sl ([.ref h0, .int x1, .int x2]) ++ List.replicate (4 - (lg_sl ([.ref h0, .int x1, .int x2])).length) Slot.unset).toArray = ls at hl ⊢
  have hl : lv_has ls 4 [(0, .ref h0), (1, .int x1), (2, .int x2)] := hl
  clear hD0
  refine lv_iload_n hx hb dX13_asFraction_0 rfl (lv_at hl 1 rfl) ?_
  refine vp_callSi (W.runS (As := [.int x1]) (rest := []) ⟨hx, hb, hml, hown, hts⟩ (c_X13_isHand l D T x1) (va_cwS 1 hts gX13_asFraction_X13_isHand rfl rfl rfl hs_X13_isHand ⟨Nat.le_of_ble_eq_true rfl, Nat.le_of_ble_eq_true rfl⟩) (pR_S hP hE [] rfl) rfl rfl hl.1 rfl (lv_room (Nat.le_of_ble_eq_true rfl)) dX13_asFraction_1 ⟨Nat.le_of_ble_eq_true rfl, Nat.le_of_ble_eq_true rfl⟩) (fun r_1 hr_1 => ?_)
  rcases bool_post hr_1 with ⟨c_2, rfl⟩ | ⟨c_2, rfl⟩
  · refine lv_if_eq (tgt := 17) hx hb dX13_asFraction_4 (by decide +kernel) (fun c9 => absurd c9 (by decide +kernel)) (fun _ => ?_)
    refine lv_iload_n hx hb dX13_asFraction_7 rfl (lv_at hl 2 rfl) ?_
    refine lv_i2l hx hb dX13_asFraction_8 rfl ?_
    refine lv_lconst (v := 0) hx hb dX13_asFraction_9 (by decide +kernel) ?_
    refine lv_lconst (v := 1) hx hb dX13_asFraction_10 (by decide +kernel) ?_
    refine vp_callSi (W.runS (As := [.long (x2.toInt64), .long 0, .long 1]) (rest := []) ⟨hx, hb, hml, hown, hts⟩ (c_X13_in l D T (x2.toInt64) 0 1 x2.toInt 0 1 ((Int32.toInt_toInt64 _).trans rfl) (by decide +kernel) (by decide +kernel)) (va_cwS 3 hts gX13_asFraction_X13_in rfl rfl rfl hs_X13_in ⟨Nat.le_of_ble_eq_true rfl, Nat.le_of_ble_eq_true rfl⟩) (pR_S hP hE [] rfl) rfl rfl hl.1 rfl (lv_room (Nat.le_of_ble_eq_true rfl)) dX13_asFraction_11 ⟨Nat.le_of_ble_eq_true rfl, Nat.le_of_ble_eq_true rfl⟩) (fun r_3 hr_3 => ?_)
    rcases bool_post hr_3 with ⟨c_4, rfl⟩ | ⟨c_4, rfl⟩
    · refine lv_if_ne (tgt := 23) hx hb dX13_asFraction_14 (by decide +kernel) (fun _ => ?_) (fun c9 => absurd c9 (by decide +kernel))
      refine lv_aload_n hx hb dX13_asFraction_23 rfl (lv_at hl 0 rfl) ?_
      refine lv_iload_n hx hb dX13_asFraction_24 rfl (lv_at hl 1 rfl) ?_
      refine lv_iconst (v := 2) hx hb dX13_asFraction_25 (by decide +kernel) ?_
      refine vp_callSi (W.runV (As := [.int x1, .int 2]) (rest := []) ⟨hx, hb, hml, hown, hts⟩ (c_X13_lacks l D T h0 [.int (q 0), .int (q 1), .int (q 2), .int (q 3), .int (q 4), .int (q 5), .int (q 6), .int (q 7), .ref (a 8), .ref (a 9), .ref (a 10), .ref (a 11), .ref (a 12), .ref (a 13), .int (q 14), .long v, .long w, .ref (a 17), .ref (a 18), .ref (a 19), .ref (a 20), .ref (a 21), .ref (a 22), .ref (a 23), .int (q 24), .ref (a 25), .int (q 26), .ref (a 27), .int (q 28), .int (q 29), .int (q 30), .int (q 31), .int (q 32), .int (q 33), .ref (a 34), .ref (a 35), .ref (a 36), .ref (a 37), .ref (a 38), .ref (a 39), .ref (a 40), .int (q 41), .ref (a 42), .int (q 43), .int (q 44)] (a 38) f38 x1 2 rfl (by omega)) (cwV 2 hts gX13_asFraction_X13_lacks rfl rfl rfl hv_X13_lacks ⟨Nat.le_of_ble_eq_true rfl, Nat.le_of_ble_eq_true rfl⟩) (pR_V (q := (RX13, TX13, 45)) (ci := 10) (q0 := 0) hP hE rfl rfl [0, 1] rfl) rfl rfl hl.1 rfl (lv_room (Nat.le_of_ble_eq_true rfl)) dX13_asFraction_26 ⟨Nat.le_of_ble_eq_true rfl, Nat.le_of_ble_eq_true rfl⟩) (fun r_5 hr_5 => ?_)
      refine lv_istore_n (lv' := [(3, .int r_5), (0, .ref h0), (1, .int x1), (2, .int x2)]) hx hb dX13_asFraction_29 rfl hl (by decide +kernel) rfl (fun ls hl => ?_)
      refine lv_iload_n hx hb dX13_asFraction_30 rfl (lv_at hl 0 rfl) ?_
      refine lv_if_eq (tgt := 41) hx hb dX13_asFraction_31 (by decide +kernel) (fun c_6 => ?_) (fun c_6 => ?_)
      · rw [fa_eq] at c_6
        try rw [ti_0] at c_6
        refine lv_iload_n hx hb dX13_asFraction_41 rfl (lv_at hl 3 rfl) ?_
        refine lv_if_ne (tgt := 54) hx hb dX13_asFraction_42 (by decide +kernel) (fun c_7 => ?_) (fun c_7 => ?_)
        · rw [fa_eq] at c_7
          try rw [ti_0] at c_7
          refine lv_aload_n hx hb dX13_asFraction_54 rfl (lv_at hl 1 rfl) ?_
          refine va_get (D := D) (ci := 10) (v := .ref (a 40)) (C := RX13) (T := TX13) (N := 45) hx hb hts in_X13_asFraction_X13 hown hE.1 hP 0 rfl rfl 40 (by decide +kernel) (hts (.fieldLink RX13 123 "ClauseBookModel" "handBelow" "[J") (List.mem_of_getElem? (i := 2) rfl)) (fun _ h9 => h9) rfl dX13_asFraction_55 ?_
          refine lv_iload_n hx hb dX13_asFraction_58 rfl (lv_at hl 2 rfl) ?_
          refine va_lald hx hb hE.1 hP 3 1 rfl rfl (by rw [vp_in_iff]; first | omega | (subst_vars; omega)) dX13_asFraction_59 ?_
          refine lv_topl (fun z_8 ez_8 => ?_)
          have hqz_8 : z_8.toInt = (f40 (x1.toNatClampNeg)).toInt := by rw [ez_8]
          exact W.lret hx hb hr (fun t ht hW => ⟨⟨_, (), rfl, (show asFr x1 x2 (f38 x1.toNatClampNeg) (f39 x1.toNatClampNeg) (f40 x1.toNatClampNeg) z_8 from (Or.inr ⟨(by omega), (by have h9 := hr_5.2; have h8 := ti_2; omega)⟩)), by rw [ht]; exact hP.sub [0, 1, 2, 3] rfl, hD.sub [0, 1, 2, 3] (by decide +kernel) rfl⟩, hS.F ht⟩) hS.2.2 dX13_asFraction_60
        · rw [fa_eq] at c_7
          try rw [ti_0] at c_7
          refine lv_aload_n hx hb dX13_asFraction_45 rfl (lv_at hl 1 rfl) ?_
          refine va_get (D := D) (ci := 10) (v := .ref (a 39)) (C := RX13) (T := TX13) (N := 45) hx hb hts in_X13_asFraction_X13 hown hE.1 hP 0 rfl rfl 39 (by decide +kernel) (hts (.fieldLink RX13 120 "ClauseBookModel" "handAbove" "[J") (List.mem_of_getElem? (i := 1) rfl)) (fun _ h9 => h9) rfl dX13_asFraction_46 ?_
          refine lv_iload_n hx hb dX13_asFraction_49 rfl (lv_at hl 2 rfl) ?_
          refine va_lald hx hb hE.1 hP 2 1 rfl rfl (by rw [vp_in_iff]; first | omega | (subst_vars; omega)) dX13_asFraction_50 ?_
          refine lv_topl (fun z_9 ez_9 => ?_)
          have hqz_9 : z_9.toInt = (f39 (x1.toNatClampNeg)).toInt := by rw [ez_9]
          refine lv_goto (tgt := 60) hx hb dX13_asFraction_51 (by decide +kernel) ?_
          exact W.lret hx hb hr (fun t ht hW => ⟨⟨_, (), rfl, (show asFr x1 x2 (f38 x1.toNatClampNeg) (f39 x1.toNatClampNeg) (f40 x1.toNatClampNeg) z_9 from (Or.inr ⟨(by omega), (by have h9 := hr_5.2; have h8 := ti_2; omega)⟩)), by rw [ht]; exact hP.sub [0, 1, 2, 3] rfl, hD.sub [0, 1, 2, 3] (by decide +kernel) rfl⟩, hS.F ht⟩) hS.2.2 dX13_asFraction_60
      · rw [fa_eq] at c_6
        try rw [ti_0] at c_6
        refine lv_iload_n hx hb dX13_asFraction_34 rfl (lv_at hl 0 rfl) ?_
        refine vp_callSl (W.runS (As := [.int r_5]) (rest := []) ⟨hx, hb, hml, hown, hts⟩ (c_X13_refused l D T r_5 (by omega)) (va_cwS 1 hts gX13_asFraction_X13_refused rfl rfl rfl hs_X13_refused ⟨Nat.le_of_ble_eq_true rfl, Nat.le_of_ble_eq_true rfl⟩) (pR_S hP hE [] rfl) rfl rfl hl.1 rfl (lv_room (Nat.le_of_ble_eq_true rfl)) dX13_asFraction_35 ⟨Nat.le_of_ble_eq_true rfl, Nat.le_of_ble_eq_true rfl⟩) (fun r_10 hr_10 => ?_)
        refine lv_goto (tgt := 60) hx hb dX13_asFraction_38 (by decide +kernel) ?_
        exact W.lret hx hb hr (fun t ht hW => ⟨⟨_, (), rfl, (show asFr x1 x2 (f38 x1.toNatClampNeg) (f39 x1.toNatClampNeg) (f40 x1.toNatClampNeg) r_10 from (Or.inr ⟨(by omega), (by have h9 := hr_5.2; have h8 := ti_2; omega)⟩)), by rw [ht]; exact hP.sub [0, 1, 2, 3] rfl, hD.sub [0, 1, 2, 3] (by decide +kernel) rfl⟩, hS.F ht⟩) hS.2.2 dX13_asFraction_60
    · refine lv_if_ne (tgt := 23) hx hb dX13_asFraction_14 (by decide +kernel) (fun c9 => absurd c9 (by decide +kernel)) (fun _ => ?_)
      refine lv_bipush (v := (-2)) hx hb dX13_asFraction_17 (by decide +kernel) ?_
      refine vp_callSl (W.runS (As := [.int (-2)]) (rest := []) ⟨hx, hb, hml, hown, hts⟩ (c_X13_refused l D T (-2) (by decide +kernel)) (va_cwS 1 hts gX13_asFraction_X13_refused rfl rfl rfl hs_X13_refused ⟨Nat.le_of_ble_eq_true rfl, Nat.le_of_ble_eq_true rfl⟩) (pR_S hP hE [] rfl) rfl rfl hl.1 rfl (lv_room (Nat.le_of_ble_eq_true rfl)) dX13_asFraction_19 ⟨Nat.le_of_ble_eq_true rfl, Nat.le_of_ble_eq_true rfl⟩) (fun r_11 hr_11 => ?_)
      exact W.lret hx hb hr (fun t ht hW => ⟨⟨_, (), rfl, (show asFr x1 x2 (f38 x1.toNatClampNeg) (f39 x1.toNatClampNeg) (f40 x1.toNatClampNeg) r_11 from (Or.inl ⟨(by omega), (by have h9 := ti_n2; omega)⟩)), by rw [ht]; exact hP.sub [0, 1, 2, 3] rfl, hD.sub [0, 1, 2, 3] (by decide +kernel) rfl⟩, hS.F ht⟩) hS.2.2 dX13_asFraction_22
  · refine lv_if_eq (tgt := 17) hx hb dX13_asFraction_4 (by decide +kernel) (fun _ => ?_) (fun c9 => absurd c9 (by decide +kernel))
    refine lv_bipush (v := (-2)) hx hb dX13_asFraction_17 (by decide +kernel) ?_
    refine vp_callSl (W.runS (As := [.int (-2)]) (rest := []) ⟨hx, hb, hml, hown, hts⟩ (c_X13_refused l D T (-2) (by decide +kernel)) (va_cwS 1 hts gX13_asFraction_X13_refused rfl rfl rfl hs_X13_refused ⟨Nat.le_of_ble_eq_true rfl, Nat.le_of_ble_eq_true rfl⟩) (pR_S hP hE [] rfl) rfl rfl hl.1 rfl (lv_room (Nat.le_of_ble_eq_true rfl)) dX13_asFraction_19 ⟨Nat.le_of_ble_eq_true rfl, Nat.le_of_ble_eq_true rfl⟩) (fun r_12 hr_12 => ?_)
    exact W.lret hx hb hr (fun t ht hW => ⟨⟨_, (), rfl, (show asFr x1 x2 (f38 x1.toNatClampNeg) (f39 x1.toNatClampNeg) (f40 x1.toNatClampNeg) r_12 from (Or.inl ⟨(by omega), (by have h9 := ti_n2; omega)⟩)), by rw [ht]; exact hP.sub [0, 1, 2, 3] rfl, hD.sub [0, 1, 2, 3] (by decide +kernel) rfl⟩, hS.F ht⟩) hS.2.2 dX13_asFraction_22
theorem dX13_compare_0 : decode cX13_compare 0 = .ok (.iload_n 1, 1) := by decide +kernel
theorem dX13_compare_1 : decode cX13_compare 1 = .ok (.invokestatic 417, 3) := by decide +kernel
theorem dX13_compare_101 : decode cX13_compare 101 = .ok (.ireturn, 1) := by decide +kernel
theorem dX13_compare_12 : decode cX13_compare 12 = .ok (.ifCond .eq 12, 3) := by decide +kernel
theorem dX13_compare_15 : decode cX13_compare 15 = .ok (.iload_n 3, 1) := by decide +kernel
theorem dX13_compare_16 : decode cX13_compare 16 = .ok (.iload 4, 2) := by decide +kernel
theorem dX13_compare_18 : decode cX13_compare 18 = .ok (.invokestatic 188, 3) := by decide +kernel
theorem dX13_compare_21 : decode cX13_compare 21 = .ok (.ifCond .ne 6, 3) := by decide +kernel
theorem dX13_compare_24 : decode cX13_compare 24 = .ok (.bipush (-2), 2) := by decide +kernel
theorem dX13_compare_26 : decode cX13_compare 26 = .ok (.ireturn, 1) := by decide +kernel
theorem dX13_compare_27 : decode cX13_compare 27 = .ok (.aload_n 0, 1) := by decide +kernel
theorem dX13_compare_28 : decode cX13_compare 28 = .ok (.iload_n 1, 1) := by decide +kernel
theorem dX13_compare_29 : decode cX13_compare 29 = .ok (.iconst 2, 1) := by decide +kernel
theorem dX13_compare_30 : decode cX13_compare 30 = .ok (.invokevirtual 420, 3) := by decide +kernel
theorem dX13_compare_33 : decode cX13_compare 33 = .ok (.istore 5, 2) := by decide +kernel
theorem dX13_compare_35 : decode cX13_compare 35 = .ok (.iload 5, 2) := by decide +kernel
theorem dX13_compare_37 : decode cX13_compare 37 = .ok (.ifCond .eq 6, 3) := by decide +kernel
theorem dX13_compare_4 : decode cX13_compare 4 = .ok (.ifCond .eq 20, 3) := by decide +kernel
theorem dX13_compare_40 : decode cX13_compare 40 = .ok (.iload 5, 2) := by decide +kernel
theorem dX13_compare_42 : decode cX13_compare 42 = .ok (.ireturn, 1) := by decide +kernel
theorem dX13_compare_43 : decode cX13_compare 43 = .ok (.aload_n 0, 1) := by decide +kernel
theorem dX13_compare_44 : decode cX13_compare 44 = .ok (.iload_n 2, 1) := by decide +kernel
theorem dX13_compare_45 : decode cX13_compare 45 = .ok (.invokevirtual 274, 3) := by decide +kernel
theorem dX13_compare_48 : decode cX13_compare 48 = .ok (.iload_n 2, 1) := by decide +kernel
theorem dX13_compare_49 : decode cX13_compare 49 = .ok (.iload_n 3, 1) := by decide +kernel
theorem dX13_compare_50 : decode cX13_compare 50 = .ok (.iload 4, 2) := by decide +kernel
theorem dX13_compare_52 : decode cX13_compare 52 = .ok (.invokestatic 239, 3) := by decide +kernel
theorem dX13_compare_55 : decode cX13_compare 55 = .ok (.istore 6, 2) := by decide +kernel
theorem dX13_compare_57 : decode cX13_compare 57 = .ok (.aload_n 0, 1) := by decide +kernel
theorem dX13_compare_58 : decode cX13_compare 58 = .ok (.getfield 63, 3) := by decide +kernel
theorem dX13_compare_61 : decode cX13_compare 61 = .ok (.iload 6, 2) := by decide +kernel
theorem dX13_compare_63 : decode cX13_compare 63 = .ok (.baload, 1) := by decide +kernel
theorem dX13_compare_64 : decode cX13_compare 64 = .ok (.ifCond .eq 8, 3) := by decide +kernel
theorem dX13_compare_67 : decode cX13_compare 67 = .ok (.bipush (-5), 2) := by decide +kernel
theorem dX13_compare_69 : decode cX13_compare 69 = .ok (.goto 32, 3) := by decide +kernel
theorem dX13_compare_7 : decode cX13_compare 7 = .ok (.aload_n 0, 1) := by decide +kernel
theorem dX13_compare_72 : decode cX13_compare 72 = .ok (.aload_n 0, 1) := by decide +kernel
theorem dX13_compare_73 : decode cX13_compare 73 = .ok (.getfield 56, 3) := by decide +kernel
theorem dX13_compare_76 : decode cX13_compare 76 = .ok (.iload 6, 2) := by decide +kernel
theorem dX13_compare_78 : decode cX13_compare 78 = .ok (.laload, 1) := by decide +kernel
theorem dX13_compare_79 : decode cX13_compare 79 = .ok (.aload_n 0, 1) := by decide +kernel
theorem dX13_compare_8 : decode cX13_compare 8 = .ok (.iload_n 2, 1) := by decide +kernel
theorem dX13_compare_80 : decode cX13_compare 80 = .ok (.getfield 60, 3) := by decide +kernel
theorem dX13_compare_83 : decode cX13_compare 83 = .ok (.iload 6, 2) := by decide +kernel
theorem dX13_compare_85 : decode cX13_compare 85 = .ok (.laload, 1) := by decide +kernel
theorem dX13_compare_86 : decode cX13_compare 86 = .ok (.aload_n 0, 1) := by decide +kernel
theorem dX13_compare_87 : decode cX13_compare 87 = .ok (.getfield 120, 3) := by decide +kernel
theorem dX13_compare_9 : decode cX13_compare 9 = .ok (.invokevirtual 233, 3) := by decide +kernel
theorem dX13_compare_90 : decode cX13_compare 90 = .ok (.iload_n 1, 1) := by decide +kernel
theorem dX13_compare_91 : decode cX13_compare 91 = .ok (.laload, 1) := by decide +kernel
theorem dX13_compare_92 : decode cX13_compare 92 = .ok (.aload_n 0, 1) := by decide +kernel
theorem dX13_compare_93 : decode cX13_compare 93 = .ok (.getfield 123, 3) := by decide +kernel
theorem dX13_compare_96 : decode cX13_compare 96 = .ok (.iload_n 1, 1) := by decide +kernel
theorem dX13_compare_97 : decode cX13_compare 97 = .ok (.laload, 1) := by decide +kernel
theorem dX13_compare_98 : decode cX13_compare 98 = .ok (.invokestatic 167, 3) := by decide +kernel
set_option maxRecDepth 20000 in
theorem ggX13_compare_X13_at : GoodIn wsX13_compare wsX13_at := goodIn_r _ [74] rfl (by decide +kernel)
set_option maxRecDepth 20000 in
theorem ggX13_compare_X13_compared : GoodIn wsX13_compare wsX13_compared := goodIn_r _ [109, 110, 111, 112, 113, 107, 108, 8] rfl (by decide +kernel)
set_option maxRecDepth 20000 in
theorem ggX13_compare_X13_isClause : GoodIn wsX13_compare wsX13_isClause := goodIn_r _ [17, 18, 11, 12, 8, 13, 126, 127, 128, 129, 130, 131, 132, 133, 134, 135, 136, 137, 138, 139, 140, 141, 142, 143, 144, 145, 146, 147, 148, 149, 150, 151, 152, 153, 154, 155, 156, 157, 158, 159, 160, 161, 162, 163, 164, 165, 166, 167, 168, 169, 170] rfl (by decide +kernel)
set_option maxRecDepth 20000 in
theorem ggX13_compare_X13_isHand : GoodIn wsX13_compare wsX13_isHand := goodIn_r _ [9, 10, 11, 12, 8, 13] rfl (by decide +kernel)
set_option maxRecDepth 20000 in
theorem ggX13_compare_X13_isSpot : GoodIn wsX13_compare wsX13_isSpot := goodIn_r _ [21, 22, 11, 12, 8, 13] rfl (by decide +kernel)
set_option maxRecDepth 20000 in
theorem ggX13_compare_X13_lacks : GoodIn wsX13_compare wsX13_lacks := goodIn_r _ [26, 27, 126, 127, 128, 129, 130, 131, 132, 133, 134, 135, 136, 137, 138, 139, 140, 141, 142, 143, 144, 145, 146, 147, 148, 149, 150, 151, 152, 153, 154, 155, 156, 157, 158, 159, 160, 161, 162, 163, 164, 165, 166, 167, 168, 169, 170] rfl (by decide +kernel)
set_option maxRecDepth 40000 in
theorem ggX13_compare_X13_laysWorths_0 : GoodIn wsX13_compare [.code yX13_laysWorths cX13_laysWorths 6 none] := goodIn_r _ [31] rfl (by decide +kernel)
set_option maxRecDepth 40000 in
theorem ggX13_compare_X13_laysWorths_1 : GoodIn wsX13_compare wsX13_laysWorths_r1 := goodIn_r _ [32, 33, 1, 2, 34, 3, 35, 36, 37, 38, 8, 39, 18, 40, 41, 42, 43, 44, 45, 46, 47, 48, 49, 50] rfl (by decide +kernel)
set_option maxRecDepth 40000 in
theorem ggX13_compare_X13_laysWorths_2 : GoodIn wsX13_compare wsX13_laysWorths_r2 := goodIn_r _ [51, 52, 53, 54, 55, 56, 57, 58, 59, 60, 61, 62, 63, 64, 65, 66, 67, 68, 69, 70, 71, 72, 73, 74] rfl (by decide +kernel)
set_option maxRecDepth 40000 in
theorem ggX13_compare_X13_laysWorths_3 : GoodIn wsX13_compare wsX13_laysWorths_r3 := goodIn_r _ [75, 76, 77, 78, 79, 80, 81, 82, 83, 84, 85, 86, 87, 88, 89, 90, 91, 92, 93, 94, 95, 96, 97, 98] rfl (by decide +kernel)
set_option maxRecDepth 40000 in
theorem ggX13_compare_X13_laysWorths_4 : GoodIn wsX13_compare wsX13_laysWorths_r4 := goodIn_r _ [99, 100, 101, 102, 103, 104, 105, 106, 107, 108, 109, 110, 111, 112, 113, 114, 115, 116, 117, 118, 119, 120, 121, 122] rfl (by decide +kernel)
set_option maxRecDepth 40000 in
theorem ggX13_compare_X13_laysWorths_5 : GoodIn wsX13_compare wsX13_laysWorths_r5 := goodIn_r _ [123, 124, 125] rfl (by decide +kernel)
set_option maxRecDepth 40000 in
theorem ggX13_compare_X13_laysWorths_6 : GoodIn wsX13_compare wsX130 := goodIn_r _ [126, 127, 128, 129, 130, 131, 132, 133, 134, 135, 136, 137, 138, 139, 140, 141, 142, 143, 144, 145, 146, 147, 148, 149, 150, 151, 152, 153, 154, 155, 156, 157, 158, 159, 160, 161, 162, 163, 164, 165, 166, 167, 168, 169, 170] rfl (by decide +kernel)
set_option maxRecDepth 40000 in
theorem ggX13_compare_X13_laysWorths : GoodIn wsX13_compare wsX13_laysWorths := (goodIn_app ggX13_compare_X13_laysWorths_0 (goodIn_app (goodIn_app ggX13_compare_X13_laysWorths_1 (goodIn_app ggX13_compare_X13_laysWorths_2 (goodIn_app ggX13_compare_X13_laysWorths_3 (goodIn_app ggX13_compare_X13_laysWorths_4 ggX13_compare_X13_laysWorths_5)))) ggX13_compare_X13_laysWorths_6))
set_option maxRecDepth 20000 in
theorem gX13_compare_X13_at : GoodIn wsX13_compare (va_wsS RX13 239 yX13_at wsX13_at) := goodIn_app (goodIn_of _ (by decide +kernel)) ggX13_compare_X13_at
set_option maxRecDepth 20000 in
theorem gX13_compare_X13_compared : GoodIn wsX13_compare (va_wsS RX13 167 yX13_compared wsX13_compared) := goodIn_app (goodIn_of _ (by decide +kernel)) ggX13_compare_X13_compared
set_option maxRecDepth 20000 in
theorem gX13_compare_X13_isClause : GoodIn wsX13_compare (wsV RX13 233 RX13 yX13_isClause wsX13_isClause) := goodIn_app (goodIn_r _ [14, 15, 16, 8] rfl (by decide +kernel)) ggX13_compare_X13_isClause
set_option maxRecDepth 20000 in
theorem gX13_compare_X13_isHand : GoodIn wsX13_compare (va_wsS RX13 417 yX13_isHand wsX13_isHand) := goodIn_app (goodIn_of _ (by decide +kernel)) ggX13_compare_X13_isHand
set_option maxRecDepth 20000 in
theorem gX13_compare_X13_isSpot : GoodIn wsX13_compare (va_wsS RX13 188 yX13_isSpot wsX13_isSpot) := goodIn_app (goodIn_of _ (by decide +kernel)) ggX13_compare_X13_isSpot
set_option maxRecDepth 20000 in
theorem gX13_compare_X13_lacks : GoodIn wsX13_compare (wsV RX13 420 RX13 yX13_lacks wsX13_lacks) := goodIn_app (goodIn_r _ [23, 24, 25, 8] rfl (by decide +kernel)) ggX13_compare_X13_lacks
set_option maxRecDepth 20000 in
theorem gX13_compare_X13_laysWorths : GoodIn wsX13_compare (wsV RX13 274 RX13 yX13_laysWorths wsX13_laysWorths) := goodIn_app (goodIn_r _ [28, 29, 30, 8] rfl (by decide +kernel)) ggX13_compare_X13_laysWorths
set_option maxRecDepth 20000 in
theorem in_X13_compare_X13 : ∀ w ∈ wsX130, w ∈ wsX13_compare := sub_r [126, 127, 128, 129, 130, 131, 132, 133, 134, 135, 136, 137, 138, 139, 140, 141, 142, 143, 144, 145, 146, 147, 148, 149, 150, 151, 152, 153, 154, 155, 156, 157, 158, 159, 160, 161, 162, 163, 164, 165, 166, 167, 168, 169, 170] rfl
set_option maxHeartbeats 4000000 in
set_option maxRecDepth 100000 in
theorem c_X13_compare (l : Launch) (D : va_G) (T : Nat → ClassId) (sz : Nat) (h0 : Nat) (q : Nat → Int32) (v : Int64) (w : Int64) (a : Nat → Nat) (f8 : Nat → Int32) (f9 : Nat → Int32) (f10 : Nat → Int32) (f11 : Nat → Int32) (f17 : Nat → Int32) (f18 : Nat → Int32) (f19 : Nat → Int32) (f20 : Nat → Int64) (f21 : Nat → Int64) (f22 : Nat → Int32) (f38 : Nat → Int32) (f39 : Nat → Int64) (f40 : Nat → Int64) (x1 : Int32) (x2 : Int32) (x3 : Int32) (x4 : Int32) (hB : isB (q 14)) (hm : 0 ≤ (q 7).toInt ∧ (q 7).toInt ≤ 24) (hokR : okR f8 f10 f11) (hZ : ∀ j : Nat, isB (f22 j)) (hL : (1 ≤ (q 4).toInt ∧ (q 4).toInt ≤ 9) ∧ 1 ≤ (q 6).toInt ∧ (q 6).toInt ≤ 9) (hhd : ∀ k : Nat, k < 4 → (f38 k).toInt = 2 → 1 ≤ (f40 k).toInt) : Met l yX13_compare wsX13_compare ({ frames := 134, cells := 0, slots := 0, locals := 5283 }) (pW [.ref h0, .int x1, .int x2, .int x3, .int x4] D T [(h0, .inr (10, (Value.int (q 0) :: Value.int (q 1) :: Value.int (q 2) :: Value.int (q 3) :: Value.int (q 4) :: Value.int (q 5) :: Value.int (q 6) :: Value.int (q 7) :: Value.ref (a 8) :: Value.ref (a 9) :: Value.ref (a 10) :: Value.ref (a 11) :: Value.ref (a 12) :: Value.ref (a 13) :: Value.int (q 14) :: Value.long v :: Value.long w :: Value.ref (a 17) :: Value.ref (a 18) :: Value.ref (a 19) :: Value.ref (a 20) :: Value.ref (a 21) :: Value.ref (a 22) :: Value.ref (a 23) :: Value.int (q 24) :: Value.ref (a 25) :: Value.int (q 26) :: Value.ref (a 27) :: Value.int (q 28) :: Value.int (q 29) :: Value.int (q 30) :: Value.int (q 31) :: Value.int (q 32) :: Value.int (q 33) :: Value.ref (a 34) :: Value.ref (a 35) :: Value.ref (a 36) :: Value.ref (a 37) :: Value.ref (a 38) :: Value.ref (a 39) :: Value.ref (a 40) :: Value.int (q 41) :: Value.ref (a 42) :: Value.int (q 43) :: Value.int (q 44) :: []))), ((a 8), .inl (T 0, 24, .inl f8)), ((a 9), .inl (T 0, 24, .inl f9)), ((a 10), .inl (T 0, 24, .inl f10)), ((a 11), .inl (T 0, 24, .inl f11)), ((a 17), .inl (T 0, 24, .inl f17)), ((a 18), .inl (T 0, 24, .inl f18)), ((a 19), .inl (T 0, 24, .inl f19)), ((a 20), .inl (T 1, 672, .inr (.inl f20))), ((a 21), .inl (T 1, 672, .inr (.inl f21))), ((a 22), .inl (T 4, 672, .inl f22)), ((a 38), .inl (T 0, 4, .inl f38)), ((a 39), .inl (T 1, 4, .inr (.inl f39))), ((a 40), .inl (T 1, 4, .inr (.inl f40)))] sz) (va_Qi (fun (r : Int32) (u : (Int32) × (Int64) × (Int64) × (Nat → Int32) × (Nat → Int32) × (Nat → Int32) × (Nat → Int64) × (Nat → Int64) × (Nat → Int32)) => (isB u.1) ∧ (∀ j : Nat, isB (u.2.2.2.2.2.2.2.2 j)) ∧ (((0 ≤ x1.toInt ∧ x1.toInt ≤ 3) ∧ atV (q 7) x2 x3 x4) ∧ (f38 (x1.toNatClampNeg)).toInt = 2 → ∀ j : Nat, (j : Int) < (q 7).toInt → mesP f8 f9 f10 f11 u.2.2.2.1 u.2.2.2.2.1 u.2.2.2.2.2.1 j) ∧ (cpQ (VALW (lqW (q 0) (q 1) (q 2) (q 3) (q 4) (q 5) (q 6)) f8 f9 f10 f11 u.2.2.2.1) (q 7) (0 ≤ x1.toInt ∧ x1.toInt ≤ 3) (f38 (x1.toNatClampNeg)) ((f39 (x1.toNatClampNeg), f40 (x1.toNatClampNeg)) : Int64 × Int64) x2 x3 x4 r)) (bW D (va_A [(h0, .inr (10, (Value.int (q 0) :: Value.int (q 1) :: Value.int (q 2) :: Value.int (q 3) :: Value.int (q 4) :: Value.int (q 5) :: Value.int (q 6) :: Value.int (q 7) :: Value.ref (a 8) :: Value.ref (a 9) :: Value.ref (a 10) :: Value.ref (a 11) :: Value.ref (a 12) :: Value.ref (a 13) :: Value.int (q 14) :: Value.long v :: Value.long w :: Value.ref (a 17) :: Value.ref (a 18) :: Value.ref (a 19) :: Value.ref (a 20) :: Value.ref (a 21) :: Value.ref (a 22) :: Value.ref (a 23) :: Value.int (q 24) :: Value.ref (a 25) :: Value.int (q 26) :: Value.ref (a 27) :: Value.int (q 28) :: Value.int (q 29) :: Value.int (q 30) :: Value.int (q 31) :: Value.int (q 32) :: Value.int (q 33) :: Value.ref (a 34) :: Value.ref (a 35) :: Value.ref (a 36) :: Value.ref (a 37) :: Value.ref (a 38) :: Value.ref (a 39) :: Value.ref (a 40) :: Value.int (q 41) :: Value.ref (a 42) :: Value.int (q 43) :: Value.int (q 44) :: []))), ((a 8), .inl (T 0, 24, .inl f8)), ((a 9), .inl (T 0, 24, .inl f9)), ((a 10), .inl (T 0, 24, .inl f10)), ((a 11), .inl (T 0, 24, .inl f11)), ((a 17), .inl (T 0, 24, .inl f17)), ((a 18), .inl (T 0, 24, .inl f18)), ((a 19), .inl (T 0, 24, .inl f19)), ((a 20), .inl (T 1, 672, .inr (.inl f20))), ((a 21), .inl (T 1, 672, .inr (.inl f21))), ((a 22), .inl (T 4, 672, .inl f22)), ((a 38), .inl (T 0, 4, .inl f38)), ((a 39), .inl (T 1, 4, .inr (.inl f39))), ((a 40), .inl (T 1, 4, .inr (.inl f40)))] sz) (fun (u : (Int32) × (Int64) × (Int64) × (Nat → Int32) × (Nat → Int32) × (Nat → Int32) × (Nat → Int64) × (Nat → Int64) × (Nat → Int32)) => [(h0, .inr (10, (Value.int (q 0) :: Value.int (q 1) :: Value.int (q 2) :: Value.int (q 3) :: Value.int (q 4) :: Value.int (q 5) :: Value.int (q 6) :: Value.int (q 7) :: Value.ref (a 8) :: Value.ref (a 9) :: Value.ref (a 10) :: Value.ref (a 11) :: Value.ref (a 12) :: Value.ref (a 13) :: Value.int u.1 :: Value.long u.2.1 :: Value.long u.2.2.1 :: Value.ref (a 17) :: Value.ref (a 18) :: Value.ref (a 19) :: Value.ref (a 20) :: Value.ref (a 21) :: Value.ref (a 22) :: Value.ref (a 23) :: Value.int (q 24) :: Value.ref (a 25) :: Value.int (q 26) :: Value.ref (a 27) :: Value.int (q 28) :: Value.int (q 29) :: Value.int (q 30) :: Value.int (q 31) :: Value.int (q 32) :: Value.int (q 33) :: Value.ref (a 34) :: Value.ref (a 35) :: Value.ref (a 36) :: Value.ref (a 37) :: Value.ref (a 38) :: Value.ref (a 39) :: Value.ref (a 40) :: Value.int (q 41) :: Value.ref (a 42) :: Value.int (q 43) :: Value.int (q 44) :: []))), ((a 8), .inl (T 0, 24, .inl f8)), ((a 9), .inl (T 0, 24, .inl f9)), ((a 10), .inl (T 0, 24, .inl f10)), ((a 11), .inl (T 0, 24, .inl f11)), ((a 17), .inl (T 0, 24, .inl u.2.2.2.1)), ((a 18), .inl (T 0, 24, .inl u.2.2.2.2.1)), ((a 19), .inl (T 0, 24, .inl u.2.2.2.2.2.1)), ((a 20), .inl (T 1, 672, .inr (.inl u.2.2.2.2.2.2.1))), ((a 21), .inl (T 1, 672, .inr (.inl u.2.2.2.2.2.2.2.1))), ((a 22), .inl (T 4, 672, .inl u.2.2.2.2.2.2.2.2)), ((a 38), .inl (T 0, 4, .inl f38)), ((a 39), .inl (T 1, 4, .inr (.inl f39))), ((a 40), .inl (T 1, 4, .inr (.inl f40)))])) (va_A [(h0, .inr (10, (Value.int (q 0) :: Value.int (q 1) :: Value.int (q 2) :: Value.int (q 3) :: Value.int (q 4) :: Value.int (q 5) :: Value.int (q 6) :: Value.int (q 7) :: Value.ref (a 8) :: Value.ref (a 9) :: Value.ref (a 10) :: Value.ref (a 11) :: Value.ref (a 12) :: Value.ref (a 13) :: Value.int (q 14) :: Value.long v :: Value.long w :: Value.ref (a 17) :: Value.ref (a 18) :: Value.ref (a 19) :: Value.ref (a 20) :: Value.ref (a 21) :: Value.ref (a 22) :: Value.ref (a 23) :: Value.int (q 24) :: Value.ref (a 25) :: Value.int (q 26) :: Value.ref (a 27) :: Value.int (q 28) :: Value.int (q 29) :: Value.int (q 30) :: Value.int (q 31) :: Value.int (q 32) :: Value.int (q 33) :: Value.ref (a 34) :: Value.ref (a 35) :: Value.ref (a 36) :: Value.ref (a 37) :: Value.ref (a 38) :: Value.ref (a 39) :: Value.ref (a 40) :: Value.int (q 41) :: Value.ref (a 42) :: Value.int (q 43) :: Value.int (q 44) :: []))), ((a 8), .inl (T 0, 24, .inl f8)), ((a 9), .inl (T 0, 24, .inl f9)), ((a 10), .inl (T 0, 24, .inl f10)), ((a 11), .inl (T 0, 24, .inl f11)), ((a 17), .inl (T 0, 24, .inl f17)), ((a 18), .inl (T 0, 24, .inl f18)), ((a 19), .inl (T 0, 24, .inl f19)), ((a 20), .inl (T 1, 672, .inr (.inl f20))), ((a 21), .inl (T 1, 672, .inr (.inl f21))), ((a 22), .inl (T 4, 672, .inl f22)), ((a 38), .inl (T 0, 4, .inl f38)), ((a 39), .inl (T 1, 4, .inr (.inl f39))), ((a 40), .inl (T 1, 4, .inr (.inl f40)))] sz)) 0 0 (va_A [(h0, .inr (10, (Value.int (q 0) :: Value.int (q 1) :: Value.int (q 2) :: Value.int (q 3) :: Value.int (q 4) :: Value.int (q 5) :: Value.int (q 6) :: Value.int (q 7) :: Value.ref (a 8) :: Value.ref (a 9) :: Value.ref (a 10) :: Value.ref (a 11) :: Value.ref (a 12) :: Value.ref (a 13) :: Value.int (q 14) :: Value.long v :: Value.long w :: Value.ref (a 17) :: Value.ref (a 18) :: Value.ref (a 19) :: Value.ref (a 20) :: Value.ref (a 21) :: Value.ref (a 22) :: Value.ref (a 23) :: Value.int (q 24) :: Value.ref (a 25) :: Value.int (q 26) :: Value.ref (a 27) :: Value.int (q 28) :: Value.int (q 29) :: Value.int (q 30) :: Value.int (q 31) :: Value.int (q 32) :: Value.int (q 33) :: Value.ref (a 34) :: Value.ref (a 35) :: Value.ref (a 36) :: Value.ref (a 37) :: Value.ref (a 38) :: Value.ref (a 39) :: Value.ref (a 40) :: Value.int (q 41) :: Value.ref (a 42) :: Value.int (q 43) :: Value.int (q 44) :: []))), ((a 8), .inl (T 0, 24, .inl f8)), ((a 9), .inl (T 0, 24, .inl f9)), ((a 10), .inl (T 0, 24, .inl f10)), ((a 11), .inl (T 0, 24, .inl f11)), ((a 17), .inl (T 0, 24, .inl f17)), ((a 18), .inl (T 0, 24, .inl f18)), ((a 19), .inl (T 0, 24, .inl f19)), ((a 20), .inl (T 1, 672, .inr (.inl f20))), ((a 21), .inl (T 1, 672, .inr (.inl f21))), ((a 22), .inl (T 4, 672, .inl f22)), ((a 38), .inl (T 0, 4, .inl f38)), ((a 39), .inl (T 1, 4, .inr (.inl f39))), ((a 40), .inl (T 1, 4, .inr (.inl f40)))] sz) := by
  refine Met.ofW (cc := cX13_compare) (maxL := 7) (ret := (some .int)) (by decide +kernel) rfl ?_
  intro p e s m args below meth c s₁ B hml hv
  obtain ⟨rfl, hsz, hP, hE, hD0⟩ := hv
  have hx := B.exec
  have hb := B.bytes
  have hr := B.returns
  have hts := atoms_spec (ws := wsX13_compare) B.pre
  have hown : s.vm.findClass RX13 = some m.cls := findClass_of_methodNamed B.named
  have hlocks := B.notSynchronized
  subst hsz
  have hD := hD0.self (sz := s.heap.size)
  generalize hAe : va_A [(h0, .inr (10, (Value.int (q 0) :: Value.int (q 1) :: Value.int (q 2) :: Value.int (q 3) :: Value.int (q 4) :: Value.int (q 5) :: Value.int (q 6) :: Value.int (q 7) :: Value.ref (a 8) :: Value.ref (a 9) :: Value.ref (a 10) :: Value.ref (a 11) :: Value.ref (a 12) :: Value.ref (a 13) :: Value.int (q 14) :: Value.long v :: Value.long w :: Value.ref (a 17) :: Value.ref (a 18) :: Value.ref (a 19) :: Value.ref (a 20) :: Value.ref (a 21) :: Value.ref (a 22) :: Value.ref (a 23) :: Value.int (q 24) :: Value.ref (a 25) :: Value.int (q 26) :: Value.ref (a 27) :: Value.int (q 28) :: Value.int (q 29) :: Value.int (q 30) :: Value.int (q 31) :: Value.int (q 32) :: Value.int (q 33) :: Value.ref (a 34) :: Value.ref (a 35) :: Value.ref (a 36) :: Value.ref (a 37) :: Value.ref (a 38) :: Value.ref (a 39) :: Value.ref (a 40) :: Value.int (q 41) :: Value.ref (a 42) :: Value.int (q 43) :: Value.int (q 44) :: []))), ((a 8), .inl (T 0, 24, .inl f8)), ((a 9), .inl (T 0, 24, .inl f9)), ((a 10), .inl (T 0, 24, .inl f10)), ((a 11), .inl (T 0, 24, .inl f11)), ((a 17), .inl (T 0, 24, .inl f17)), ((a 18), .inl (T 0, 24, .inl f18)), ((a 19), .inl (T 0, 24, .inl f19)), ((a 20), .inl (T 1, 672, .inr (.inl f20))), ((a 21), .inl (T 1, 672, .inr (.inl f21))), ((a 22), .inl (T 4, 672, .inl f22)), ((a 38), .inl (T 0, 4, .inl f38)), ((a 39), .inl (T 1, 4, .inr (.inl f39))), ((a 40), .inl (T 1, 4, .inr (.inl f40)))] s.heap.size = A at hD ⊢
  have hA : ∀ q : Nat, s.heap.size ≤ q → A q := fun q h => by rw [← hAe]; exact Or.inr h
  have hS : va_S A s.heap s.heap [] := va_S.rf
  have hP : va_P D vwCl [(h0, .inr (10, (Value.int (q 0) :: Value.int (q 1) :: Value.int (q 2) :: Value.int (q 3) :: Value.int (q 4) :: Value.int (q 5) :: Value.int (q 6) :: Value.int (q 7) :: Value.ref (a 8) :: Value.ref (a 9) :: Value.ref (a 10) :: Value.ref (a 11) :: Value.ref (a 12) :: Value.ref (a 13) :: Value.int (q 14) :: Value.long v :: Value.long w :: Value.ref (a 17) :: Value.ref (a 18) :: Value.ref (a 19) :: Value.ref (a 20) :: Value.ref (a 21) :: Value.ref (a 22) :: Value.ref (a 23) :: Value.int (q 24) :: Value.ref (a 25) :: Value.int (q 26) :: Value.ref (a 27) :: Value.int (q 28) :: Value.int (q 29) :: Value.int (q 30) :: Value.int (q 31) :: Value.int (q 32) :: Value.int (q 33) :: Value.ref (a 34) :: Value.ref (a 35) :: Value.ref (a 36) :: Value.ref (a 37) :: Value.ref (a 38) :: Value.ref (a 39) :: Value.ref (a 40) :: Value.int (q 41) :: Value.ref (a 42) :: Value.int (q 43) :: Value.int (q 44) :: []))), ((a 8), .inl (T 0, 24, .inl f8)), ((a 9), .inl (T 0, 24, .inl f9)), ((a 10), .inl (T 0, 24, .inl f10)), ((a 11), .inl (T 0, 24, .inl f11)), ((a 17), .inl (T 0, 24, .inl f17)), ((a 18), .inl (T 0, 24, .inl f18)), ((a 19), .inl (T 0, 24, .inl f19)), ((a 20), .inl (T 1, 672, .inr (.inl f20))), ((a 21), .inl (T 1, 672, .inr (.inl f21))), ((a 22), .inl (T 4, 672, .inl f22)), ((a 38), .inl (T 0, 4, .inl f38)), ((a 39), .inl (T 1, 4, .inr (.inl f39))), ((a 40), .inl (T 1, 4, .inr (.inl f40)))] s.heap := hP
  have hl := lv_entry ([.ref h0, .int x1, .int x2, .int x3, .int x4]) (n := 7) (Nat.le_of_ble_eq_true rfl)
  rw [lg_entry_eq]
  generalize (lg_sl ([.ref h0, .int x1, .int x2, .int x3, .int x4]) ++ List.replicate (7 - (lg_sl ([.ref h0, .int x1, .int x2, .int x3, .int x4])).length) Slot.unset).toArray = ls at hl ⊢
  have hl : lv_has ls 7 [(0, .ref h0), (1, .int x1), (2, .int x2), (3, .int x3), (4, .int x4)] := hl
  clear hD0
  refine lv_iload_n hx hb dX13_compare_0 rfl (lv_at hl 1 rfl) ?_
  refine vp_callSi (W.runS (As := [.int x1]) (rest := []) ⟨hx, hb, hml, hown, hts⟩ (c_X13_isHand l D T x1) (va_cwS 1 hts gX13_compare_X13_isHand rfl rfl rfl hs_X13_isHand ⟨Nat.le_of_ble_eq_true rfl, Nat.le_of_ble_eq_true rfl⟩) (pR_S hP hE [] rfl) rfl rfl hl.1 rfl (lv_room (Nat.le_of_ble_eq_true rfl)) dX13_compare_1 ⟨Nat.le_of_ble_eq_true rfl, Nat.le_of_ble_eq_true rfl⟩) (fun r_1 hr_1 => ?_)
  rcases bool_post hr_1 with ⟨c_2, rfl⟩ | ⟨c_2, rfl⟩
  · refine lv_if_eq (tgt := 24) hx hb dX13_compare_4 (by decide +kernel) (fun c9 => absurd c9 (by decide +kernel)) (fun _ => ?_)
    refine lv_aload_n hx hb dX13_compare_7 rfl (lv_at hl 0 rfl) ?_
    refine lv_iload_n hx hb dX13_compare_8 rfl (lv_at hl 2 rfl) ?_
    refine vp_callSi (W.runV (As := [.int x2]) (rest := []) ⟨hx, hb, hml, hown, hts⟩ (c_X13_isClause l D T h0 [.int (q 0), .int (q 1), .int (q 2), .int (q 3), .int (q 4), .int (q 5), .int (q 6), .int (q 7), .ref (a 8), .ref (a 9), .ref (a 10), .ref (a 11), .ref (a 12), .ref (a 13), .int (q 14), .long v, .long w, .ref (a 17), .ref (a 18), .ref (a 19), .ref (a 20), .ref (a 21), .ref (a 22), .ref (a 23), .int (q 24), .ref (a 25), .int (q 26), .ref (a 27), .int (q 28), .int (q 29), .int (q 30), .int (q 31), .int (q 32), .int (q 33), .ref (a 34), .ref (a 35), .ref (a 36), .ref (a 37), .ref (a 38), .ref (a 39), .ref (a 40), .int (q 41), .ref (a 42), .int (q 43), .int (q 44)] x2 (q 7) rfl (by omega)) (cwV 1 hts gX13_compare_X13_isClause rfl rfl rfl hv_X13_isClause ⟨Nat.le_of_ble_eq_true rfl, Nat.le_of_ble_eq_true rfl⟩) (pR_V (q := (RX13, TX13, 45)) (ci := 10) (q0 := 0) hP hE rfl rfl [0] rfl) rfl rfl hl.1 rfl (lv_room (Nat.le_of_ble_eq_true rfl)) dX13_compare_9 ⟨Nat.le_of_ble_eq_true rfl, Nat.le_of_ble_eq_true rfl⟩) (fun r_3 hr_3 => ?_)
    rcases bool_post hr_3 with ⟨c_4, rfl⟩ | ⟨c_4, rfl⟩
    · refine lv_if_eq (tgt := 24) hx hb dX13_compare_12 (by decide +kernel) (fun c9 => absurd c9 (by decide +kernel)) (fun _ => ?_)
      refine lv_iload_n hx hb dX13_compare_15 rfl (lv_at hl 3 rfl) ?_
      refine lv_iload hx hb dX13_compare_16 (lv_at hl 4 rfl) ?_
      refine vp_callSi (W.runS (As := [.int x3, .int x4]) (rest := []) ⟨hx, hb, hml, hown, hts⟩ (c_X13_isSpot l D T x3 x4) (va_cwS 2 hts gX13_compare_X13_isSpot rfl rfl rfl hs_X13_isSpot ⟨Nat.le_of_ble_eq_true rfl, Nat.le_of_ble_eq_true rfl⟩) (pR_S hP hE [] rfl) rfl rfl hl.1 rfl (lv_room (Nat.le_of_ble_eq_true rfl)) dX13_compare_18 ⟨Nat.le_of_ble_eq_true rfl, Nat.le_of_ble_eq_true rfl⟩) (fun r_5 hr_5 => ?_)
      rcases bool_post hr_5 with ⟨c_6, rfl⟩ | ⟨c_6, rfl⟩
      · refine lv_if_ne (tgt := 27) hx hb dX13_compare_21 (by decide +kernel) (fun _ => ?_) (fun c9 => absurd c9 (by decide +kernel))
        refine lv_aload_n hx hb dX13_compare_27 rfl (lv_at hl 0 rfl) ?_
        refine lv_iload_n hx hb dX13_compare_28 rfl (lv_at hl 1 rfl) ?_
        refine lv_iconst (v := 2) hx hb dX13_compare_29 (by decide +kernel) ?_
        refine vp_callSi (W.runV (As := [.int x1, .int 2]) (rest := []) ⟨hx, hb, hml, hown, hts⟩ (c_X13_lacks l D T h0 [.int (q 0), .int (q 1), .int (q 2), .int (q 3), .int (q 4), .int (q 5), .int (q 6), .int (q 7), .ref (a 8), .ref (a 9), .ref (a 10), .ref (a 11), .ref (a 12), .ref (a 13), .int (q 14), .long v, .long w, .ref (a 17), .ref (a 18), .ref (a 19), .ref (a 20), .ref (a 21), .ref (a 22), .ref (a 23), .int (q 24), .ref (a 25), .int (q 26), .ref (a 27), .int (q 28), .int (q 29), .int (q 30), .int (q 31), .int (q 32), .int (q 33), .ref (a 34), .ref (a 35), .ref (a 36), .ref (a 37), .ref (a 38), .ref (a 39), .ref (a 40), .int (q 41), .ref (a 42), .int (q 43), .int (q 44)] (a 38) f38 x1 2 rfl (by omega)) (cwV 2 hts gX13_compare_X13_lacks rfl rfl rfl hv_X13_lacks ⟨Nat.le_of_ble_eq_true rfl, Nat.le_of_ble_eq_true rfl⟩) (pR_V (q := (RX13, TX13, 45)) (ci := 10) (q0 := 0) hP hE rfl rfl [0, 11] rfl) rfl rfl hl.1 rfl (lv_room (Nat.le_of_ble_eq_true rfl)) dX13_compare_30 ⟨Nat.le_of_ble_eq_true rfl, Nat.le_of_ble_eq_true rfl⟩) (fun r_7 hr_7 => ?_)
        refine lv_istore (lv' := [(5, .int r_7), (0, .ref h0), (1, .int x1), (2, .int x2), (3, .int x3), (4, .int x4)]) hx hb dX13_compare_33 hl (by decide +kernel) rfl (fun ls hl => ?_)
        refine lv_iload hx hb dX13_compare_35 (lv_at hl 0 rfl) ?_
        refine lv_if_eq (tgt := 43) hx hb dX13_compare_37 (by decide +kernel) (fun c_8 => ?_) (fun c_8 => ?_)
        · rw [fa_eq] at c_8
          try rw [ti_0] at c_8
          refine lv_aload_n hx hb dX13_compare_43 rfl (lv_at hl 1 rfl) ?_
          refine lv_iload_n hx hb dX13_compare_44 rfl (lv_at hl 3 rfl) ?_
          have hFc := va_free (wc := [(h0, .inr (10, (Value.int (q 0) :: Value.int (q 1) :: Value.int (q 2) :: Value.int (q 3) :: Value.int (q 4) :: Value.int (q 5) :: Value.int (q 6) :: Value.int (q 7) :: Value.ref (a 8) :: Value.ref (a 9) :: Value.ref (a 10) :: Value.ref (a 11) :: Value.ref (a 12) :: Value.ref (a 13) :: Value.int (q 14) :: Value.long v :: Value.long w :: Value.ref (a 17) :: Value.ref (a 18) :: Value.ref (a 19) :: Value.ref (a 20) :: Value.ref (a 21) :: Value.ref (a 22) :: Value.ref (a 23) :: Value.int (q 24) :: Value.ref (a 25) :: Value.int (q 26) :: Value.ref (a 27) :: Value.int (q 28) :: Value.int (q 29) :: Value.int (q 30) :: Value.int (q 31) :: Value.int (q 32) :: Value.int (q 33) :: Value.ref (a 34) :: Value.ref (a 35) :: Value.ref (a 36) :: Value.ref (a 37) :: Value.ref (a 38) :: Value.ref (a 39) :: Value.ref (a 40) :: Value.int (q 41) :: Value.ref (a 42) :: Value.int (q 43) :: Value.int (q 44) :: []))), ((a 8), .inl (T 0, 24, .inl f8)), ((a 9), .inl (T 0, 24, .inl f9)), ((a 10), .inl (T 0, 24, .inl f10)), ((a 11), .inl (T 0, 24, .inl f11)), ((a 17), .inl (T 0, 24, .inl f17)), ((a 18), .inl (T 0, 24, .inl f18)), ((a 19), .inl (T 0, 24, .inl f19)), ((a 20), .inl (T 1, 672, .inr (.inl f20))), ((a 21), .inl (T 1, 672, .inr (.inl f21))), ((a 22), .inl (T 4, 672, .inl f22))]) hD hS hA [0, 1, 2, 3, 4, 5, 6, 7, 8, 9, 10] rfl
          refine va_callv (va_runV (As := [.int x2]) (rest := []) ⟨hx, hb, hml, hown, hts⟩ (c_X13_laysWorths l D T _ h0 q v w a f8 f9 f10 f11 f17 f18 f19 f20 f21 f22 x2 (show 0 ≤ (q 7).toInt ∧ (q 7).toInt ≤ 24 from (by omega)) (show okR f8 f10 f11 from hokR) (show ∀ j : Nat, isB (f22 j) from hZ) (show (1 ≤ (q 4).toInt ∧ (q 4).toInt ≤ 9) ∧ 1 ≤ (q 6).toInt ∧ (q 6).toInt ≤ 9 from (by omega)) (show -1 ≤ x2.toInt ∧ x2.toInt < (q 7).toInt from (by omega))) (cwV 1 hts gX13_compare_X13_laysWorths rfl rfl rfl hv_X13_laysWorths ⟨Nat.le_of_ble_eq_true rfl, Nat.le_of_ble_eq_true rfl⟩) (pW_V (q := (RX13, TX13, 45)) (ci := 10) (q0 := 0) hP hE hD rfl rfl [0, 1, 2, 3, 4, 5, 6, 7, 8, 9, 10] (by decide +kernel) rfl rfl) rfl rfl hl.1 rfl (lv_room (Nat.le_of_ble_eq_true rfl)) dX13_compare_45 ⟨Nat.le_of_ble_eq_true rfl, Nat.le_of_ble_eq_true rfl⟩) hS (fun q _ h => hFc q h) hFc (fun u_10 t H1 locs ht hvm hr_9 hB hz1 hk1 hS => ?_)
          obtain ⟨l_11, l_12, f_13, f_14, f_15, f_16, f_17, f_18⟩ := u_10
          obtain ⟨hi0_r_9, hi1_r_9, hi2_r_9, hi3_r_9, hi4_r_9⟩ := hr_9
          have hZ : ∀ j : Nat, isB (f_18 j) := hi0_r_9
          have hEE : okE f8 f10 f_13 (q 7).toInt := hi1_r_9
          have hW1 : ∀ j : Nat, (j : Int) < 28 * (x2.toInt + 1) → 1 ≤ (f_17 j).toInt := hi2_r_9
          have hTV : ∀ y t s : Int32, spK t s → 0 ≤ y.toInt → y.toInt ≤ x2.toInt → tabW f_16 f_17 f_18 y t s = VALW (lqW (q 0) (q 1) (q 2) (q 3) (q 4) (q 5) (q 6)) f8 f9 f10 f11 f_13 y t s := hi3_r_9
          have hMEr : ∀ j : Nat, (j : Int) < (q 7).toInt → mesP f8 f9 f10 f11 f_13 f_14 f_15 j := hi4_r_9
          obtain ⟨hP1, hD1⟩ := hB
          rw [ht] at hP1
          obtain ⟨hP, hD⟩ := va_repl [(h0, .inr (10, (Value.int (q 0) :: Value.int (q 1) :: Value.int (q 2) :: Value.int (q 3) :: Value.int (q 4) :: Value.int (q 5) :: Value.int (q 6) :: Value.int (q 7) :: Value.ref (a 8) :: Value.ref (a 9) :: Value.ref (a 10) :: Value.ref (a 11) :: Value.ref (a 12) :: Value.ref (a 13) :: Value.int 0 :: Value.long l_11 :: Value.long l_12 :: Value.ref (a 17) :: Value.ref (a 18) :: Value.ref (a 19) :: Value.ref (a 20) :: Value.ref (a 21) :: Value.ref (a 22) :: Value.ref (a 23) :: Value.int (q 24) :: Value.ref (a 25) :: Value.int (q 26) :: Value.ref (a 27) :: Value.int (q 28) :: Value.int (q 29) :: Value.int (q 30) :: Value.int (q 31) :: Value.int (q 32) :: Value.int (q 33) :: Value.ref (a 34) :: Value.ref (a 35) :: Value.ref (a 36) :: Value.ref (a 37) :: Value.ref (a 38) :: Value.ref (a 39) :: Value.ref (a 40) :: Value.int (q 41) :: Value.ref (a 42) :: Value.int (q 43) :: Value.int (q 44) :: []))), ((a 8), .inl (T 0, 24, .inl f8)), ((a 9), .inl (T 0, 24, .inl f9)), ((a 10), .inl (T 0, 24, .inl f10)), ((a 11), .inl (T 0, 24, .inl f11)), ((a 17), .inl (T 0, 24, .inl f_13)), ((a 18), .inl (T 0, 24, .inl f_14)), ((a 19), .inl (T 0, 24, .inl f_15)), ((a 20), .inl (T 1, 672, .inr (.inl f_16))), ((a 21), .inl (T 1, 672, .inr (.inl f_17))), ((a 22), .inl (T 4, 672, .inl f_18)), ((a 38), .inl (T 0, 4, .inl f38)), ((a 39), .inl (T 1, 4, .inr (.inl f39))), ((a 40), .inl (T 1, 4, .inr (.inl f40)))] hP hD [0, 1, 2, 3, 4, 5, 6, 7, 8, 9, 10] [0, 1, 2, 3, 4, 5, 6, 7, 8, 9, 10] rfl (by decide +kernel) rfl rfl rfl hk1 hP1
          clear hP1 hD1 hFc
          generalize H1 = H at hP hS ⊢
          refine lv_iload_n hx hb dX13_compare_48 rfl (lv_at hl 3 rfl) ?_
          refine lv_iload_n hx hb dX13_compare_49 rfl (lv_at hl 4 rfl) ?_
          refine lv_iload hx hb dX13_compare_50 (lv_at hl 5 rfl) ?_
          refine vp_callSi (W.runS (As := [.int x2, .int x3, .int x4]) (rest := []) ⟨hx, hb, hml, hown, hts⟩ (c_X13_at l D T x2 x3 x4 (by (try simp only [ti_0]); omega) (by (try simp only [ti_0]); omega) (by (try simp only [ti_0]); omega)) (va_cwS 3 hts gX13_compare_X13_at rfl rfl rfl hs_X13_at ⟨Nat.le_of_ble_eq_true rfl, Nat.le_of_ble_eq_true rfl⟩) (pR_S hP hE [] rfl) rfl rfl hl.1 rfl (lv_room (Nat.le_of_ble_eq_true rfl)) dX13_compare_52 ⟨Nat.le_of_ble_eq_true rfl, Nat.le_of_ble_eq_true rfl⟩) (fun r_19 hr_19 => ?_)
          refine lv_istore (lv' := [(6, .int r_19), (5, .int r_7), (0, .ref h0), (1, .int x1), (2, .int x2), (3, .int x3), (4, .int x4)]) hx hb dX13_compare_55 hl (by decide +kernel) rfl (fun ls hl => ?_)
          have hsl9 : r_19.toNatClampNeg = slN x2 x3 x4 := at_sl (by omega) (by omega) (by omega) hr_19.1
          have hv9 : tabW f_16 f_17 f_18 x2 x3 x4 = (VALW (lqW (q 0) (q 1) (q 2) (q 3) (q 4) (q 5) (q 6)) f8 f9 f10 f11 f_13) x2 x3 x4 := hTV x2 x3 x4 ⟨⟨(by omega), (by omega)⟩, (by omega), (by omega)⟩ (by omega) (by omega)
          have hq9 : 1 ≤ (f_17 (slN x2 x3 x4)).toInt := by rw [← hsl9]; exact hW1 _ (by have h9 := tn (x := r_19) (by omega); omega)
          refine lv_aload_n hx hb dX13_compare_57 rfl (lv_at hl 2 rfl) ?_
          refine va_get (D := D) (ci := 10) (v := .ref (a 22)) (C := RX13) (T := TX13) (N := 45) hx hb hts in_X13_compare_X13 hown hE.1 hP 0 rfl rfl 22 (by decide +kernel) (hts (.fieldLink RX13 63 "ClauseBookModel" "worthMuch" "[Z") (List.mem_of_getElem? (i := 1) rfl)) (fun _ h9 => h9) rfl dX13_compare_58 ?_
          refine lv_iload hx hb dX13_compare_61 (lv_at hl 0 rfl) ?_
          refine va_zald hx hb hE.1 hP 10 4 rfl rfl (by rw [vp_in_iff]; first | omega | (subst_vars; omega)) dX13_compare_63 ?_
          refine lv_topi (fun z_20 ez_20 => ?_)
          refine lv_if_eq (tgt := 72) hx hb dX13_compare_64 (by decide +kernel) (fun c_21 => ?_) (fun c_21 => ?_)
          · rw [fa_eq] at c_21
            try rw [ti_0] at c_21
            refine lv_aload_n hx hb dX13_compare_72 rfl (lv_at hl 2 rfl) ?_
            refine va_get (D := D) (ci := 10) (v := .ref (a 20)) (C := RX13) (T := TX13) (N := 45) hx hb hts in_X13_compare_X13 hown hE.1 hP 0 rfl rfl 20 (by decide +kernel) (hts (.fieldLink RX13 56 "ClauseBookModel" "worthAbove" "[J") (List.mem_of_getElem? (i := 2) rfl)) (fun _ h9 => h9) rfl dX13_compare_73 ?_
            refine lv_iload hx hb dX13_compare_76 (lv_at hl 0 rfl) ?_
            refine va_lald hx hb hE.1 hP 8 1 rfl rfl (by rw [vp_in_iff]; first | omega | (subst_vars; omega)) dX13_compare_78 ?_
            refine lv_topl (fun z_22 ez_22 => ?_)
            refine lv_aload_n hx hb dX13_compare_79 rfl (lv_at hl 2 rfl) ?_
            refine va_get (D := D) (ci := 10) (v := .ref (a 21)) (C := RX13) (T := TX13) (N := 45) hx hb hts in_X13_compare_X13 hown hE.1 hP 0 rfl rfl 21 (by decide +kernel) (hts (.fieldLink RX13 60 "ClauseBookModel" "worthBelow" "[J") (List.mem_of_getElem? (i := 3) rfl)) (fun _ h9 => h9) rfl dX13_compare_80 ?_
            refine lv_iload hx hb dX13_compare_83 (lv_at hl 0 rfl) ?_
            refine va_lald hx hb hE.1 hP 9 1 rfl rfl (by rw [vp_in_iff]; first | omega | (subst_vars; omega)) dX13_compare_85 ?_
            refine lv_topl (fun z_23 ez_23 => ?_)
            have hbz_23 : 1 ≤ z_23.toInt := by
              rw [ez_23]
              have h9 := tn (x := r_19) (by omega)
              exact hW1 _ (by omega)
            refine lv_aload_n hx hb dX13_compare_86 rfl (lv_at hl 2 rfl) ?_
            refine va_get (D := D) (ci := 10) (v := .ref (a 39)) (C := RX13) (T := TX13) (N := 45) hx hb hts in_X13_compare_X13 hown hE.1 hP 0 rfl rfl 39 (by decide +kernel) (hts (.fieldLink RX13 120 "ClauseBookModel" "handAbove" "[J") (List.mem_of_getElem? (i := 4) rfl)) (fun _ h9 => h9) rfl dX13_compare_87 ?_
            refine lv_iload_n hx hb dX13_compare_90 rfl (lv_at hl 3 rfl) ?_
            refine va_lald hx hb hE.1 hP 12 1 rfl rfl (by rw [vp_in_iff]; first | omega | (subst_vars; omega)) dX13_compare_91 ?_
            refine lv_topl (fun z_24 ez_24 => ?_)
            refine lv_aload_n hx hb dX13_compare_92 rfl (lv_at hl 2 rfl) ?_
            refine va_get (D := D) (ci := 10) (v := .ref (a 40)) (C := RX13) (T := TX13) (N := 45) hx hb hts in_X13_compare_X13 hown hE.1 hP 0 rfl rfl 40 (by decide +kernel) (hts (.fieldLink RX13 123 "ClauseBookModel" "handBelow" "[J") (List.mem_of_getElem? (i := 5) rfl)) (fun _ h9 => h9) rfl dX13_compare_93 ?_
            refine lv_iload_n hx hb dX13_compare_96 rfl (lv_at hl 3 rfl) ?_
            refine va_lald hx hb hE.1 hP 13 1 rfl rfl (by rw [vp_in_iff]; first | omega | (subst_vars; omega)) dX13_compare_97 ?_
            refine lv_topl (fun z_25 ez_25 => ?_)
            have hbz_25 : 1 ≤ z_25.toInt := by
              rw [ez_25]
              exact hhd _ (tn3 (by omega) (by omega)) ((hr_7.1 (by omega)).trans (by decide +kernel))
            refine vp_callSi (W.runS (As := [.long z_22, .long z_23, .long z_24, .long z_25]) (rest := []) ⟨hx, hb, hml, hown, hts⟩ (cC_all l D T 127 z_22 z_23 z_24 z_25 (by omega) (by omega) (cmpT (by omega) (by omega))) (va_cwS 4 hts gX13_compare_X13_compared rfl rfl rfl hs_X13_compared ⟨Nat.le_of_ble_eq_true rfl, Nat.le_of_ble_eq_true rfl⟩) (pR_S hP hE [] rfl) rfl rfl hl.1 rfl (lv_room (Nat.le_of_ble_eq_true rfl)) dX13_compare_98 ⟨Nat.le_of_ble_eq_true rfl, Nat.le_of_ble_eq_true rfl⟩) (fun r_26 hr_26 => ?_)
            exact W.iret hx hb hr (fun t ht hW => ⟨⟨_, (0, l_11, l_12, f_13, f_14, f_15, f_16, f_17, f_18), rfl, ⟨(show isB 0 from isB0), (show ∀ j : Nat, isB (f_18 j) from hZ), (show ((0 ≤ x1.toInt ∧ x1.toInt ≤ 3) ∧ atV (q 7) x2 x3 x4) ∧ (f38 (x1.toNatClampNeg)).toInt = 2 → ∀ j : Nat, (j : Int) < (q 7).toInt → mesP f8 f9 f10 f11 f_13 f_14 f_15 j from (fun _ => hMEr)), (show cpQ (VALW (lqW (q 0) (q 1) (q 2) (q 3) (q 4) (q 5) (q 6)) f8 f9 f10 f11 f_13) (q 7) (0 ≤ x1.toInt ∧ x1.toInt ≤ 3) (f38 (x1.toNatClampNeg)) ((f39 (x1.toNatClampNeg), f40 (x1.toNatClampNeg)) : Int64 × Int64) x2 x3 x4 r_26 from (Or.inr ⟨⟨(by omega), ⟨(by omega), (by omega), (by omega)⟩⟩, Or.inr (Or.inr ⟨((hr_7.1 (by omega)).trans ti_2), Or.inr ⟨m1_of hv9 (ez_20.trans (by rw [hsl9])) hq9 (by omega), (by rw [cp_of hv9 (by rw [← hsl9, ← ez_20]; omega), hr_26, ez_22, ez_23, ez_24, ez_25, hsl9])⟩⟩)⟩))⟩, by rw [ht]; exact hP.sub [0, 1, 2, 3, 4, 5, 6, 7, 8, 9, 10, 11, 12, 13] rfl, hD.sub [0, 1, 2, 3, 4, 5, 6, 7, 8, 9, 10, 11, 12, 13] (by decide +kernel) rfl⟩, hS.F ht⟩) hS.2.2 dX13_compare_101
          · rw [fa_eq] at c_21
            try rw [ti_0] at c_21
            refine lv_bipush (v := (-5)) hx hb dX13_compare_67 (by decide +kernel) ?_
            refine lv_goto (tgt := 101) hx hb dX13_compare_69 (by decide +kernel) ?_
            exact W.iret hx hb hr (fun t ht hW => ⟨⟨_, (0, l_11, l_12, f_13, f_14, f_15, f_16, f_17, f_18), rfl, ⟨(show isB 0 from isB0), (show ∀ j : Nat, isB (f_18 j) from hZ), (show ((0 ≤ x1.toInt ∧ x1.toInt ≤ 3) ∧ atV (q 7) x2 x3 x4) ∧ (f38 (x1.toNatClampNeg)).toInt = 2 → ∀ j : Nat, (j : Int) < (q 7).toInt → mesP f8 f9 f10 f11 f_13 f_14 f_15 j from (fun _ => hMEr)), (show cpQ (VALW (lqW (q 0) (q 1) (q 2) (q 3) (q 4) (q 5) (q 6)) f8 f9 f10 f11 f_13) (q 7) (0 ≤ x1.toInt ∧ x1.toInt ≤ 3) (f38 (x1.toNatClampNeg)) ((f39 (x1.toNatClampNeg), f40 (x1.toNatClampNeg)) : Int64 × Int64) x2 x3 x4 ((-5) : Int32) from (Or.inr ⟨⟨(by omega), ⟨(by omega), (by omega), (by omega)⟩⟩, Or.inr (Or.inr ⟨((hr_7.1 (by omega)).trans ti_2), Or.inl ⟨m0_of hv9 (ez_20.trans (by rw [hsl9])) (by omega), (by decide +kernel)⟩⟩)⟩))⟩, by rw [ht]; exact hP.sub [0, 1, 2, 3, 4, 5, 6, 7, 8, 9, 10, 11, 12, 13] rfl, hD.sub [0, 1, 2, 3, 4, 5, 6, 7, 8, 9, 10, 11, 12, 13] (by decide +kernel) rfl⟩, hS.F ht⟩) hS.2.2 dX13_compare_101
        · rw [fa_eq] at c_8
          try rw [ti_0] at c_8
          refine lv_iload hx hb dX13_compare_40 (lv_at hl 0 rfl) ?_
          exact W.iret hx hb hr (fun t ht hW => ⟨⟨_, ((q 14), v, w, f17, f18, f19, f20, f21, f22), rfl, ⟨(show isB (q 14) from hB), (show ∀ j : Nat, isB (f22 j) from hZ), (show ((0 ≤ x1.toInt ∧ x1.toInt ≤ 3) ∧ atV (q 7) x2 x3 x4) ∧ (f38 (x1.toNatClampNeg)).toInt = 2 → ∀ j : Nat, (j : Int) < (q 7).toInt → mesP f8 f9 f10 f11 f17 f18 f19 j from (fun h9 => by exfalso; obtain ⟨⟨g0, h1, h2, h3⟩, h4⟩ := h9; have h8 := ti_2; have h7 := hr_7.2; omega)), (show cpQ (VALW (lqW (q 0) (q 1) (q 2) (q 3) (q 4) (q 5) (q 6)) f8 f9 f10 f11 f17) (q 7) (0 ≤ x1.toInt ∧ x1.toInt ≤ 3) (f38 (x1.toNatClampNeg)) ((f39 (x1.toNatClampNeg), f40 (x1.toNatClampNeg)) : Int64 × Int64) x2 x3 x4 r_7 from (Or.inr ⟨⟨(by omega), ⟨(by omega), (by omega), (by omega)⟩⟩, (by have h8 := hr_7.2; have h7 := ti_2; rcases h8 with h8 | h8 | h8 <;> first | exact Or.inl ⟨h8.1, h8.2⟩ | exact Or.inr (Or.inl ⟨h8.1, by omega, h8.2.2⟩) | (exfalso; omega))⟩))⟩, by rw [ht]; exact hP.sub [0, 1, 2, 3, 4, 5, 6, 7, 8, 9, 10, 11, 12, 13] rfl, hD.sub [0, 1, 2, 3, 4, 5, 6, 7, 8, 9, 10, 11, 12, 13] (by decide +kernel) rfl⟩, hS.F ht⟩) hS.2.2 dX13_compare_42
      · refine lv_if_ne (tgt := 27) hx hb dX13_compare_21 (by decide +kernel) (fun c9 => absurd c9 (by decide +kernel)) (fun _ => ?_)
        refine lv_bipush (v := (-2)) hx hb dX13_compare_24 (by decide +kernel) ?_
        exact W.iret hx hb hr (fun t ht hW => ⟨⟨_, ((q 14), v, w, f17, f18, f19, f20, f21, f22), rfl, ⟨(show isB (q 14) from hB), (show ∀ j : Nat, isB (f22 j) from hZ), (show ((0 ≤ x1.toInt ∧ x1.toInt ≤ 3) ∧ atV (q 7) x2 x3 x4) ∧ (f38 (x1.toNatClampNeg)).toInt = 2 → ∀ j : Nat, (j : Int) < (q 7).toInt → mesP f8 f9 f10 f11 f17 f18 f19 j from (fun h9 => by exfalso; obtain ⟨⟨g0, h1, h2, h3⟩, h4⟩ := h9; have h8 := ti_2; omega)), (show cpQ (VALW (lqW (q 0) (q 1) (q 2) (q 3) (q 4) (q 5) (q 6)) f8 f9 f10 f11 f17) (q 7) (0 ≤ x1.toInt ∧ x1.toInt ≤ 3) (f38 (x1.toNatClampNeg)) ((f39 (x1.toNatClampNeg), f40 (x1.toNatClampNeg)) : Int64 × Int64) x2 x3 x4 ((-2) : Int32) from (cp_no (fun h9 => by obtain ⟨g0, h1, h2, h3⟩ := h9; omega) (by decide +kernel)))⟩, by rw [ht]; exact hP.sub [0, 1, 2, 3, 4, 5, 6, 7, 8, 9, 10, 11, 12, 13] rfl, hD.sub [0, 1, 2, 3, 4, 5, 6, 7, 8, 9, 10, 11, 12, 13] (by decide +kernel) rfl⟩, hS.F ht⟩) hS.2.2 dX13_compare_26
    · refine lv_if_eq (tgt := 24) hx hb dX13_compare_12 (by decide +kernel) (fun _ => ?_) (fun c9 => absurd c9 (by decide +kernel))
      refine lv_bipush (v := (-2)) hx hb dX13_compare_24 (by decide +kernel) ?_
      exact W.iret hx hb hr (fun t ht hW => ⟨⟨_, ((q 14), v, w, f17, f18, f19, f20, f21, f22), rfl, ⟨(show isB (q 14) from hB), (show ∀ j : Nat, isB (f22 j) from hZ), (show ((0 ≤ x1.toInt ∧ x1.toInt ≤ 3) ∧ atV (q 7) x2 x3 x4) ∧ (f38 (x1.toNatClampNeg)).toInt = 2 → ∀ j : Nat, (j : Int) < (q 7).toInt → mesP f8 f9 f10 f11 f17 f18 f19 j from (fun h9 => by exfalso; obtain ⟨⟨g0, h1, h2, h3⟩, h4⟩ := h9; have h8 := ti_2; omega)), (show cpQ (VALW (lqW (q 0) (q 1) (q 2) (q 3) (q 4) (q 5) (q 6)) f8 f9 f10 f11 f17) (q 7) (0 ≤ x1.toInt ∧ x1.toInt ≤ 3) (f38 (x1.toNatClampNeg)) ((f39 (x1.toNatClampNeg), f40 (x1.toNatClampNeg)) : Int64 × Int64) x2 x3 x4 ((-2) : Int32) from (cp_no (fun h9 => by obtain ⟨g0, h1, h2, h3⟩ := h9; omega) (by decide +kernel)))⟩, by rw [ht]; exact hP.sub [0, 1, 2, 3, 4, 5, 6, 7, 8, 9, 10, 11, 12, 13] rfl, hD.sub [0, 1, 2, 3, 4, 5, 6, 7, 8, 9, 10, 11, 12, 13] (by decide +kernel) rfl⟩, hS.F ht⟩) hS.2.2 dX13_compare_26
  · refine lv_if_eq (tgt := 24) hx hb dX13_compare_4 (by decide +kernel) (fun _ => ?_) (fun c9 => absurd c9 (by decide +kernel))
    refine lv_bipush (v := (-2)) hx hb dX13_compare_24 (by decide +kernel) ?_
    exact W.iret hx hb hr (fun t ht hW => ⟨⟨_, ((q 14), v, w, f17, f18, f19, f20, f21, f22), rfl, ⟨(show isB (q 14) from hB), (show ∀ j : Nat, isB (f22 j) from hZ), (show ((0 ≤ x1.toInt ∧ x1.toInt ≤ 3) ∧ atV (q 7) x2 x3 x4) ∧ (f38 (x1.toNatClampNeg)).toInt = 2 → ∀ j : Nat, (j : Int) < (q 7).toInt → mesP f8 f9 f10 f11 f17 f18 f19 j from (fun h9 => by exfalso; obtain ⟨⟨g0, h1, h2, h3⟩, h4⟩ := h9; have h8 := ti_2; omega)), (show cpQ (VALW (lqW (q 0) (q 1) (q 2) (q 3) (q 4) (q 5) (q 6)) f8 f9 f10 f11 f17) (q 7) (0 ≤ x1.toInt ∧ x1.toInt ≤ 3) (f38 (x1.toNatClampNeg)) ((f39 (x1.toNatClampNeg), f40 (x1.toNatClampNeg)) : Int64 × Int64) x2 x3 x4 ((-2) : Int32) from (cp_no (fun h9 => by obtain ⟨g0, h1, h2, h3⟩ := h9; omega) (by decide +kernel)))⟩, by rw [ht]; exact hP.sub [0, 1, 2, 3, 4, 5, 6, 7, 8, 9, 10, 11, 12, 13] rfl, hD.sub [0, 1, 2, 3, 4, 5, 6, 7, 8, 9, 10, 11, 12, 13] (by decide +kernel) rfl⟩, hS.F ht⟩) hS.2.2 dX13_compare_26
