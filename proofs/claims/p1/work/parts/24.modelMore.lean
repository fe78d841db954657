theorem ti_90 : (90 : Int32).toInt = 90 := by decide
theorem tl_min : (-9223372036854775808 : Int64).toInt = -9223372036854775808 := by decide
theorem vp_in4 {x : Int32} (h : 0 ≤ x.toInt ∧ x.toInt ≤ 3) : vp_in x 4 := vp_in_iff.mpr (by omega)
theorem dX13_hold_0 : decode cX13_hold 0 = .ok (.iload_n 1, 1) := by decide +kernel
theorem dX13_hold_1 : decode cX13_hold 1 = .ok (.invokestatic 417, 3) := by decide +kernel
theorem dX13_hold_10 : decode cX13_hold 10 = .ok (.ldc2_w 184, 3) := by decide +kernel
theorem dX13_hold_100 : decode cX13_hold 100 = .ok (.lload 8, 2) := by decide +kernel
theorem dX13_hold_102 : decode cX13_hold 102 = .ok (.ldiv, 1) := by decide +kernel
theorem dX13_hold_103 : decode cX13_hold 103 = .ok (.lastore, 1) := by decide +kernel
theorem dX13_hold_104 : decode cX13_hold 104 = .ok (.aload_n 0, 1) := by decide +kernel
theorem dX13_hold_105 : decode cX13_hold 105 = .ok (.getfield 123, 3) := by decide +kernel
theorem dX13_hold_108 : decode cX13_hold 108 = .ok (.iload_n 1, 1) := by decide +kernel
theorem dX13_hold_109 : decode cX13_hold 109 = .ok (.iload_n 2, 1) := by decide +kernel
theorem dX13_hold_110 : decode cX13_hold 110 = .ok (.iconst 2, 1) := by decide +kernel
theorem dX13_hold_111 : decode cX13_hold 111 = .ok (.if_icmp .ne 11, 3) := by decide +kernel
theorem dX13_hold_114 : decode cX13_hold 114 = .ok (.lload 5, 2) := by decide +kernel
theorem dX13_hold_116 : decode cX13_hold 116 = .ok (.lload 8, 2) := by decide +kernel
theorem dX13_hold_118 : decode cX13_hold 118 = .ok (.ldiv, 1) := by decide +kernel
theorem dX13_hold_119 : decode cX13_hold 119 = .ok (.goto 4, 3) := by decide +kernel
theorem dX13_hold_122 : decode cX13_hold 122 = .ok (.lconst 1, 1) := by decide +kernel
theorem dX13_hold_123 : decode cX13_hold 123 = .ok (.lastore, 1) := by decide +kernel
theorem dX13_hold_124 : decode cX13_hold 124 = .ok (.iload 7, 2) := by decide +kernel
theorem dX13_hold_126 : decode cX13_hold 126 = .ok (.ireturn, 1) := by decide +kernel
theorem dX13_hold_13 : decode cX13_hold 13 = .ok (.invokestatic 175, 3) := by decide +kernel
theorem dX13_hold_16 : decode cX13_hold 16 = .ok (.ifCond .eq 43, 3) := by decide +kernel
theorem dX13_hold_19 : decode cX13_hold 19 = .ok (.iload_n 2, 1) := by decide +kernel
theorem dX13_hold_20 : decode cX13_hold 20 = .ok (.iconst 1, 1) := by decide +kernel
theorem dX13_hold_21 : decode cX13_hold 21 = .ok (.if_icmp .ne 18, 3) := by decide +kernel
theorem dX13_hold_24 : decode cX13_hold 24 = .ok (.lload_n 3, 1) := by decide +kernel
theorem dX13_hold_25 : decode cX13_hold 25 = .ok (.lconst 0, 1) := by decide +kernel
theorem dX13_hold_26 : decode cX13_hold 26 = .ok (.aload_n 0, 1) := by decide +kernel
theorem dX13_hold_27 : decode cX13_hold 27 = .ok (.getfield 205, 3) := by decide +kernel
theorem dX13_hold_30 : decode cX13_hold 30 = .ok (.iconst 1, 1) := by decide +kernel
theorem dX13_hold_31 : decode cX13_hold 31 = .ok (.isub, 1) := by decide +kernel
theorem dX13_hold_32 : decode cX13_hold 32 = .ok (.i2l, 1) := by decide +kernel
theorem dX13_hold_33 : decode cX13_hold 33 = .ok (.invokestatic 175, 3) := by decide +kernel
theorem dX13_hold_36 : decode cX13_hold 36 = .ok (.ifCond .eq 23, 3) := by decide +kernel
theorem dX13_hold_39 : decode cX13_hold 39 = .ok (.iload_n 2, 1) := by decide +kernel
theorem dX13_hold_4 : decode cX13_hold 4 = .ok (.ifCond .eq 55, 3) := by decide +kernel
theorem dX13_hold_40 : decode cX13_hold 40 = .ok (.iconst 2, 1) := by decide +kernel
theorem dX13_hold_41 : decode cX13_hold 41 = .ok (.if_icmp .ne 21, 3) := by decide +kernel
theorem dX13_hold_44 : decode cX13_hold 44 = .ok (.lload 5, 2) := by decide +kernel
theorem dX13_hold_46 : decode cX13_hold 46 = .ok (.lconst 1, 1) := by decide +kernel
theorem dX13_hold_47 : decode cX13_hold 47 = .ok (.lcmp, 1) := by decide +kernel
theorem dX13_hold_48 : decode cX13_hold 48 = .ok (.ifCond .lt 11, 3) := by decide +kernel
theorem dX13_hold_51 : decode cX13_hold 51 = .ok (.lload_n 3, 1) := by decide +kernel
theorem dX13_hold_52 : decode cX13_hold 52 = .ok (.ldc2_w 139, 3) := by decide +kernel
theorem dX13_hold_55 : decode cX13_hold 55 = .ok (.lcmp, 1) := by decide +kernel
theorem dX13_hold_56 : decode cX13_hold 56 = .ok (.ifCond .ne 6, 3) := by decide +kernel
theorem dX13_hold_59 : decode cX13_hold 59 = .ok (.bipush (-2), 2) := by decide +kernel
theorem dX13_hold_61 : decode cX13_hold 61 = .ok (.ireturn, 1) := by decide +kernel
theorem dX13_hold_62 : decode cX13_hold 62 = .ok (.aload_n 0, 1) := by decide +kernel
theorem dX13_hold_63 : decode cX13_hold 63 = .ok (.getfield 117, 3) := by decide +kernel
theorem dX13_hold_66 : decode cX13_hold 66 = .ok (.iload_n 1, 1) := by decide +kernel
theorem dX13_hold_67 : decode cX13_hold 67 = .ok (.iaload, 1) := by decide +kernel
theorem dX13_hold_68 : decode cX13_hold 68 = .ok (.istore 7, 2) := by decide +kernel
theorem dX13_hold_7 : decode cX13_hold 7 = .ok (.iload_n 2, 1) := by decide +kernel
theorem dX13_hold_70 : decode cX13_hold 70 = .ok (.iload_n 2, 1) := by decide +kernel
theorem dX13_hold_71 : decode cX13_hold 71 = .ok (.iconst 2, 1) := by decide +kernel
theorem dX13_hold_72 : decode cX13_hold 72 = .ok (.if_icmp .ne 12, 3) := by decide +kernel
theorem dX13_hold_75 : decode cX13_hold 75 = .ok (.lload_n 3, 1) := by decide +kernel
theorem dX13_hold_76 : decode cX13_hold 76 = .ok (.lload 5, 2) := by decide +kernel
theorem dX13_hold_78 : decode cX13_hold 78 = .ok (.invokestatic 141, 3) := by decide +kernel
theorem dX13_hold_8 : decode cX13_hold 8 = .ok (.i2l, 1) := by decide +kernel
theorem dX13_hold_81 : decode cX13_hold 81 = .ok (.goto 4, 3) := by decide +kernel
theorem dX13_hold_84 : decode cX13_hold 84 = .ok (.lconst 1, 1) := by decide +kernel
theorem dX13_hold_85 : decode cX13_hold 85 = .ok (.lstore 8, 2) := by decide +kernel
theorem dX13_hold_87 : decode cX13_hold 87 = .ok (.aload_n 0, 1) := by decide +kernel
theorem dX13_hold_88 : decode cX13_hold 88 = .ok (.getfield 117, 3) := by decide +kernel
theorem dX13_hold_9 : decode cX13_hold 9 = .ok (.lconst 0, 1) := by decide +kernel
theorem dX13_hold_91 : decode cX13_hold 91 = .ok (.iload_n 1, 1) := by decide +kernel
theorem dX13_hold_92 : decode cX13_hold 92 = .ok (.iload_n 2, 1) := by decide +kernel
theorem dX13_hold_93 : decode cX13_hold 93 = .ok (.iastore, 1) := by decide +kernel
theorem dX13_hold_94 : decode cX13_hold 94 = .ok (.aload_n 0, 1) := by decide +kernel
theorem dX13_hold_95 : decode cX13_hold 95 = .ok (.getfield 120, 3) := by decide +kernel
theorem dX13_hold_98 : decode cX13_hold 98 = .ok (.iload_n 1, 1) := by decide +kernel
theorem dX13_hold_99 : decode cX13_hold 99 = .ok (.lload_n 3, 1) := by decide +kernel
set_option maxRecDepth 20000 in
theorem ggX13_hold_X13_divisor : GoodIn wsX13_hold wsX13_divisor := goodIn_r _ [17] (by decide +kernel) (by decide +kernel)
set_option maxRecDepth 20000 in
theorem ggX13_hold_X13_in : GoodIn wsX13_hold wsX13_in := goodIn_r _ [14] (by decide +kernel) (by decide +kernel)
set_option maxRecDepth 20000 in
theorem ggX13_hold_X13_isHand : GoodIn wsX13_hold wsX13_isHand := goodIn_r _ [10, 11, 12, 13, 9, 14] (by decide +kernel) (by decide +kernel)
set_option maxRecDepth 20000 in
theorem gX13_hold_X13_divisor : GoodIn wsX13_hold (va_wsS RX13 141 yX13_divisor wsX13_divisor) := goodIn_app (goodIn_of _ (by decide +kernel)) ggX13_hold_X13_divisor
set_option maxRecDepth 20000 in
theorem gX13_hold_X13_in : GoodIn wsX13_hold (va_wsS RX13 175 yX13_in wsX13_in) := goodIn_app (goodIn_of _ (by decide +kernel)) ggX13_hold_X13_in
set_option maxRecDepth 20000 in
theorem gX13_hold_X13_isHand : GoodIn wsX13_hold (va_wsS RX13 417 yX13_isHand wsX13_isHand) := goodIn_app (goodIn_of _ (by decide +kernel)) ggX13_hold_X13_isHand
set_option maxRecDepth 20000 in
theorem in_X13_hold_X13 : ∀ w ∈ wsX130, w ∈ wsX13_hold := by decide +kernel
set_option maxHeartbeats 4000000 in
set_option maxRecDepth 100000 in
theorem f_X13_hold (l : Launch) (D : va_G) (T : Nat → ClassId) (sz : Nat) (h0 : Nat) (fs0 : List Value) (a0 : Nat) (f38 : Nat → Int32) (a1 : Nat) (f39 : Nat → Int64) (a2 : Nat) (f40 : Nat → Int64) (x1 : Int32) (x2 : Int32) (x3 : Int64) (x4 : Int64) (hl0 : fs0.length = 45) (e0_7 : fs0[7]? = some (.int 0)) (e0_38 : fs0[38]? = some (.ref a0)) (ef38_0 : f38 0 = 0) (ef38_1 : f38 1 = 0) (ef38_2 : f38 2 = 0) (ef38_3 : f38 3 = 0) (e0_39 : fs0[39]? = some (.ref a1)) (e0_40 : fs0[40]? = some (.ref a2)) : Met l yX13_hold wsX13_hold ({ frames := 2, cells := 0, slots := 0, locals := 45 }) (pW [.ref h0, .int x1, .int x2, .long x3, .long x4] D T [(h0, .inr (10, fs0)), (a0, .inl (T 0, 4, .inl f38)), (a1, .inl (T 1, 4, .inr (.inl f39))), (a2, .inl (T 1, 4, .inr (.inl f40)))] sz) (va_Qi (fun (r : Int32) (u : Unit) => r = sp_hold x1 x2 x3 x4) (bW D (va_A [(h0, .inr (10, fs0)), (a0, .inl (T 0, 4, .inl f38)), (a1, .inl (T 1, 4, .inr (.inl f39))), (a2, .inl (T 1, 4, .inr (.inl f40)))] sz) (fun (u : Unit) => ([] : va_W))) (va_A [(h0, .inr (10, fs0)), (a0, .inl (T 0, 4, .inl f38)), (a1, .inl (T 1, 4, .inr (.inl f39))), (a2, .inl (T 1, 4, .inr (.inl f40)))] sz)) 0 0 (va_A [(h0, .inr (10, fs0)), (a0, .inl (T 0, 4, .inl f38)), (a1, .inl (T 1, 4, .inr (.inl f39))), (a2, .inl (T 1, 4, .inr (.inl f40)))] sz) := by
  refine Met.ofW (cc := cX13_hold) (maxL := 10) (ret := (some .int)) (by decide) rfl ?_
  intro p e s m args below meth c s₁ B hml hv
  obtain ⟨rfl, hsz, hP, hE, hD0⟩ := hv
  have hx := B.exec
  have hb := B.bytes
  have hr := B.returns
  have hts := atoms_spec (ws := wsX13_hold) B.pre
  have hown : s.vm.findClass RX13 = some m.cls := findClass_of_methodNamed B.named
  have hlocks := B.notSynchronized
  subst hsz
  have hD := hD0.self (sz := s.heap.size)
  generalize hAe : va_A [(h0, .inr (10, fs0)), (a0, .inl (T 0, 4, .inl f38)), (a1, .inl (T 1, 4, .inr (.inl f39))), (a2, .inl (T 1, 4, .inr (.inl f40)))] s.heap.size = A at hD ⊢
  have hA : ∀ q : Nat, s.heap.size ≤ q → A q := fun q h => by rw [← hAe]; exact Or.inr h
  have hS : va_S A s.heap s.heap [] := va_S.rf
  have hP : va_P D vwCl [(h0, .inr (10, fs0)), (a0, .inl (T 0, 4, .inl f38)), (a1, .inl (T 1, 4, .inr (.inl f39))), (a2, .inl (T 1, 4, .inr (.inl f40)))] s.heap := hP
  have hl := lv_entry ([.ref h0, .int x1, .int x2, .long x3, .long x4]) (n := 10) (Nat.le_of_ble_eq_true rfl)
  rw [lg_entry_eq]
  generalize (lg_sl ([.ref h0, .int x1, .int x2, .long x3, .long x4]) ++ List.replicate (10 - (lg_sl ([.ref h0, .int x1, .int x2, .long x3, .long x4])).length) Slot.unset).toArray = ls at hl ⊢
  have hl : lv_has ls 10 [(0, .ref h0), (1, .int x1), (2, .int x2), (3, .long x3), (5, .long x4)] := hl
  clear hD0
  refine lv_iload_n hx hb dX13_hold_0 rfl (lv_at hl 1 rfl) ?_
  refine vp_callSi (W.runS (As := [.int x1]) (rest := []) ⟨hx, hb, hml, hown, hts⟩ (c_X13_isHand l D T x1) (va_cwS 1 hts gX13_hold_X13_isHand rfl rfl rfl (by decide +kernel) ⟨Nat.le_of_ble_eq_true rfl, Nat.le_of_ble_eq_true rfl⟩) (pR_S hP hE [] rfl) rfl rfl hl.1 rfl (lv_room (Nat.le_of_ble_eq_true rfl)) dX13_hold_1 ⟨Nat.le_of_ble_eq_true rfl, Nat.le_of_ble_eq_true rfl⟩) (fun r_1 hr_1 => ?_)
  rcases bool_post hr_1 with ⟨c_2, rfl⟩ | ⟨c_2, rfl⟩
  · refine lv_if_eq (tgt := 59) hx hb dX13_hold_4 (by decide) (fun c9 => absurd c9 (by decide)) (fun _ => ?_)
    refine lv_iload_n hx hb dX13_hold_7 rfl (lv_at hl 2 rfl) ?_
    refine lv_i2l hx hb dX13_hold_8 rfl ?_
    refine lv_lconst (v := 0) hx hb dX13_hold_9 (by decide) ?_
    refine lv_ldc2 (v := 2) hx hb hown (hts (.constantLong RX13 184 (2)) (List.mem_of_getElem? (i := 1) rfl)) dX13_hold_10 ?_
    refine vp_callSi (W.runS (As := [.long (x2.toInt64), .long 0, .long 2]) (rest := []) ⟨hx, hb, hml, hown, hts⟩ (c_X13_in l D T (x2.toInt64) 0 2 x2.toInt 0 2 ((Int32.toInt_toInt64 _).trans rfl) (by decide) (by decide)) (va_cwS 3 hts gX13_hold_X13_in rfl rfl rfl (by decide +kernel) ⟨Nat.le_of_ble_eq_true rfl, Nat.le_of_ble_eq_true rfl⟩) (pR_S hP hE [] rfl) rfl rfl hl.1 rfl (lv_room (Nat.le_of_ble_eq_true rfl)) dX13_hold_13 ⟨Nat.le_of_ble_eq_true rfl, Nat.le_of_ble_eq_true rfl⟩) (fun r_3 hr_3 => ?_)
    rcases bool_post hr_3 with ⟨c_4, rfl⟩ | ⟨c_4, rfl⟩
    · refine lv_if_eq (tgt := 59) hx hb dX13_hold_16 (by decide) (fun c9 => absurd c9 (by decide)) (fun _ => ?_)
      refine lv_iload_n hx hb dX13_hold_19 rfl (lv_at hl 2 rfl) ?_
      refine lv_iconst (v := 1) hx hb dX13_hold_20 (by decide) ?_
      refine lv_icmp_ne (tgt := 39) hx hb dX13_hold_21 (by decide) (fun c_5 => ?_) (fun c_5 => ?_)
      · rw [fa_eq] at c_5
        try rw [ti_1] at c_5
        refine lv_iload_n hx hb dX13_hold_39 rfl (lv_at hl 2 rfl) ?_
        refine lv_iconst (v := 2) hx hb dX13_hold_40 (by decide) ?_
        refine lv_icmp_ne (tgt := 62) hx hb dX13_hold_41 (by decide) (fun c_6 => ?_) (fun c_6 => ?_)
        · rw [fa_eq] at c_6
          try rw [ti_2] at c_6
          refine lv_aload_n hx hb dX13_hold_62 rfl (lv_at hl 0 rfl) ?_
          refine va_get (D := D) (ci := 10) (v := .ref a0) (C := RX13) (T := TX13) (N := 45) hx hb hts in_X13_hold_X13 hown hE.1 hP 0 rfl rfl 38 (by decide) (hts (.fieldLink RX13 117 "ClauseBookModel" "handSort" "[I") (List.mem_of_getElem? (i := 4) rfl)) (fun _ h9 => h9) e0_38 dX13_hold_63 ?_
          refine lv_iload_n hx hb dX13_hold_66 rfl (lv_at hl 1 rfl) ?_
          rcases in4 (x := x1) (by omega) with rfl | rfl | rfl | rfl
          · refine va_iald hx hb hE.1 hP 1 0 rfl rfl (by unfold vp_in; decide) dX13_hold_67 ?_
            refine lv_topi (fun z_7 ez_7 => ?_)
            obtain rfl : z_7 = 0 := ez_7.trans ef38_0
            refine lv_istore (lv' := [(7, .int 0), (0, .ref h0), (1, .int 0), (2, .int x2), (3, .long x3), (5, .long x4)]) hx hb dX13_hold_68 hl (by decide) rfl (fun ls hl => ?_)
            refine lv_iload_n hx hb dX13_hold_70 rfl (lv_at hl 3 rfl) ?_
            refine lv_iconst (v := 2) hx hb dX13_hold_71 (by decide) ?_
            refine lv_icmp_ne (tgt := 84) hx hb dX13_hold_72 (by decide) (fun c_8 => ?_) (fun c_8 => ?_)
            · rw [fa_eq] at c_8
              try rw [ti_2] at c_8
              refine lv_lconst (v := 1) hx hb dX13_hold_84 (by decide) ?_
              refine lv_lstore (lv' := [(8, .long 1), (7, .int 0), (0, .ref h0), (1, .int 0), (2, .int x2), (3, .long x3), (5, .long x4)]) hx hb dX13_hold_85 hl (by decide) rfl (fun ls hl => ?_)
              refine lv_aload_n hx hb dX13_hold_87 rfl (lv_at hl 2 rfl) ?_
              refine va_get (D := D) (ci := 10) (v := .ref a0) (C := RX13) (T := TX13) (N := 45) hx hb hts in_X13_hold_X13 hown hE.1 hP 0 rfl rfl 38 (by decide) (hts (.fieldLink RX13 117 "ClauseBookModel" "handSort" "[I") (List.mem_of_getElem? (i := 4) rfl)) (fun _ h9 => h9) e0_38 dX13_hold_88 ?_
              refine lv_iload_n hx hb dX13_hold_91 rfl (lv_at hl 3 rfl) ?_
              refine lv_iload_n hx hb dX13_hold_92 rfl (lv_at hl 4 rfl) ?_
              refine va_iast hx hb hE.1 hP hD hS 1 0 rfl rfl (by unfold vp_in; decide) dX13_hold_93 (fun H locs hP hD hS => ?_)
              have hP : va_P D vwCl [(h0, .inr (10, fs0)), (a0, .inl (T 0, 4, .inl (upd f38 0 x2))), (a1, .inl (T 1, 4, .inr (.inl f39))), (a2, .inl (T 1, 4, .inr (.inl f40)))] H := hP
              have hD : va_D A [(h0, .inr (10, fs0)), (a0, .inl (T 0, 4, .inl (upd f38 0 x2))), (a1, .inl (T 1, 4, .inr (.inl f39))), (a2, .inl (T 1, 4, .inr (.inl f40)))] := hD
              refine lv_aload_n hx hb dX13_hold_94 rfl (lv_at hl 2 rfl) ?_
              refine va_get (D := D) (ci := 10) (v := .ref a1) (C := RX13) (T := TX13) (N := 45) hx hb hts in_X13_hold_X13 hown hE.1 hP 0 rfl rfl 39 (by decide) (hts (.fieldLink RX13 120 "ClauseBookModel" "handAbove" "[J") (List.mem_of_getElem? (i := 5) rfl)) (fun _ h9 => h9) e0_39 dX13_hold_95 ?_
              refine lv_iload_n hx hb dX13_hold_98 rfl (lv_at hl 3 rfl) ?_
              refine lv_lload_n hx hb dX13_hold_99 rfl (lv_at hl 5 rfl) ?_
              refine lv_lload hx hb dX13_hold_100 (lv_at hl 0 rfl) ?_
              refine lv_ldiv hx hb dX13_hold_102 (by decide) ?_
              refine va_last hx hb hE.1 hP hD hS 2 1 rfl rfl (by unfold vp_in; decide) dX13_hold_103 (fun H locs hP hD hS => ?_)
              have hP : va_P D vwCl [(h0, .inr (10, fs0)), (a0, .inl (T 0, 4, .inl (upd f38 0 x2))), (a1, .inl (T 1, 4, .inr (.inl (vp_updL f39 0 (x3 / 1))))), (a2, .inl (T 1, 4, .inr (.inl f40)))] H := hP
              have hD : va_D A [(h0, .inr (10, fs0)), (a0, .inl (T 0, 4, .inl (upd f38 0 x2))), (a1, .inl (T 1, 4, .inr (.inl (vp_updL f39 0 (x3 / 1))))), (a2, .inl (T 1, 4, .inr (.inl f40)))] := hD
              refine lv_aload_n hx hb dX13_hold_104 rfl (lv_at hl 2 rfl) ?_
              refine va_get (D := D) (ci := 10) (v := .ref a2) (C := RX13) (T := TX13) (N := 45) hx hb hts in_X13_hold_X13 hown hE.1 hP 0 rfl rfl 40 (by decide) (hts (.fieldLink RX13 123 "ClauseBookModel" "handBelow" "[J") (List.mem_of_getElem? (i := 6) rfl)) (fun _ h9 => h9) e0_40 dX13_hold_105 ?_
              refine lv_iload_n hx hb dX13_hold_108 rfl (lv_at hl 3 rfl) ?_
              refine lv_iload_n hx hb dX13_hold_109 rfl (lv_at hl 4 rfl) ?_
              refine lv_iconst (v := 2) hx hb dX13_hold_110 (by decide) ?_
              refine lv_icmp_ne (tgt := 122) hx hb dX13_hold_111 (by decide) (fun c_9 => ?_) (fun c_9 => ?_)
              · rw [fa_eq] at c_9
                try rw [ti_2] at c_9
                refine lv_lconst (v := 1) hx hb dX13_hold_122 (by decide) ?_
                refine va_last hx hb hE.1 hP hD hS 3 1 rfl rfl (by unfold vp_in; decide) dX13_hold_123 (fun H locs hP hD hS => ?_)
                have hP : va_P D vwCl [(h0, .inr (10, fs0)), (a0, .inl (T 0, 4, .inl (upd f38 0 x2))), (a1, .inl (T 1, 4, .inr (.inl (vp_updL f39 0 (x3 / 1))))), (a2, .inl (T 1, 4, .inr (.inl (vp_updL f40 0 1))))] H := hP
                have hD : va_D A [(h0, .inr (10, fs0)), (a0, .inl (T 0, 4, .inl (upd f38 0 x2))), (a1, .inl (T 1, 4, .inr (.inl (vp_updL f39 0 (x3 / 1))))), (a2, .inl (T 1, 4, .inr (.inl (vp_updL f40 0 1))))] := hD
                refine lv_iload hx hb dX13_hold_124 (lv_at hl 1 rfl) ?_
                exact W.iret hx hb hr (fun t ht hW => ⟨⟨_, (), rfl, (by first | decide | (unfold sp_hold; (repeat' split) <;> first | rfl | (exfalso; omega))), by rw [ht]; exact hP.sub [] rfl, hD.sub [] (by decide) rfl⟩, hS.F ht⟩) hS.2.2 dX13_hold_126
              · rw [fa_eq] at c_9
                try rw [ti_2] at c_9
                refine lv_lload hx hb dX13_hold_114 (lv_at hl 6 rfl) ?_
                refine lv_lload hx hb dX13_hold_116 (lv_at hl 0 rfl) ?_
                refine lv_ldiv hx hb dX13_hold_118 (by decide) ?_
                refine lv_goto (tgt := 123) hx hb dX13_hold_119 (by decide) ?_
                refine va_last hx hb hE.1 hP hD hS 3 1 rfl rfl (by unfold vp_in; decide) dX13_hold_123 (fun H locs hP hD hS => ?_)
                have hP : va_P D vwCl [(h0, .inr (10, fs0)), (a0, .inl (T 0, 4, .inl (upd f38 0 x2))), (a1, .inl (T 1, 4, .inr (.inl (vp_updL f39 0 (x3 / 1))))), (a2, .inl (T 1, 4, .inr (.inl (vp_updL f40 0 (x4 / 1)))))] H := hP
                have hD : va_D A [(h0, .inr (10, fs0)), (a0, .inl (T 0, 4, .inl (upd f38 0 x2))), (a1, .inl (T 1, 4, .inr (.inl (vp_updL f39 0 (x3 / 1))))), (a2, .inl (T 1, 4, .inr (.inl (vp_updL f40 0 (x4 / 1)))))] := hD
                refine lv_iload hx hb dX13_hold_124 (lv_at hl 1 rfl) ?_
                exact W.iret hx hb hr (fun t ht hW => ⟨⟨_, (), rfl, (by first | decide | (unfold sp_hold; (repeat' split) <;> first | rfl | (exfalso; omega))), by rw [ht]; exact hP.sub [] rfl, hD.sub [] (by decide) rfl⟩, hS.F ht⟩) hS.2.2 dX13_hold_126
            · rw [fa_eq] at c_8
              try rw [ti_2] at c_8
              refine lv_lload_n hx hb dX13_hold_75 rfl (lv_at hl 4 rfl) ?_
              refine lv_lload hx hb dX13_hold_76 (lv_at hl 5 rfl) ?_
              refine vp_callSl (W.runS (As := [.long x3, .long x4]) (rest := []) ⟨hx, hb, hml, hown, hts⟩ (c_X13_divisor l D T x3 x4 (by omega)) (va_cwS 2 hts gX13_hold_X13_divisor rfl rfl rfl (by decide +kernel) ⟨Nat.le_of_ble_eq_true rfl, Nat.le_of_ble_eq_true rfl⟩) (pR_S hP hE [] rfl) rfl rfl hl.1 rfl (lv_room (Nat.le_of_ble_eq_true rfl)) dX13_hold_78 ⟨Nat.le_of_ble_eq_true rfl, Nat.le_of_ble_eq_true rfl⟩) (fun r_10 hr_10 => ?_)
              refine lv_goto (tgt := 85) hx hb dX13_hold_81 (by decide) ?_
              refine lv_lstore (lv' := [(8, .long r_10), (7, .int 0), (0, .ref h0), (1, .int 0), (2, .int x2), (3, .long x3), (5, .long x4)]) hx hb dX13_hold_85 hl (by decide) rfl (fun ls hl => ?_)
              refine lv_aload_n hx hb dX13_hold_87 rfl (lv_at hl 2 rfl) ?_
              refine va_get (D := D) (ci := 10) (v := .ref a0) (C := RX13) (T := TX13) (N := 45) hx hb hts in_X13_hold_X13 hown hE.1 hP 0 rfl rfl 38 (by decide) (hts (.fieldLink RX13 117 "ClauseBookModel" "handSort" "[I") (List.mem_of_getElem? (i := 4) rfl)) (fun _ h9 => h9) e0_38 dX13_hold_88 ?_
              refine lv_iload_n hx hb dX13_hold_91 rfl (lv_at hl 3 rfl) ?_
              refine lv_iload_n hx hb dX13_hold_92 rfl (lv_at hl 4 rfl) ?_
              refine va_iast hx hb hE.1 hP hD hS 1 0 rfl rfl (by unfold vp_in; decide) dX13_hold_93 (fun H locs hP hD hS => ?_)
              have hP : va_P D vwCl [(h0, .inr (10, fs0)), (a0, .inl (T 0, 4, .inl (upd f38 0 x2))), (a1, .inl (T 1, 4, .inr (.inl f39))), (a2, .inl (T 1, 4, .inr (.inl f40)))] H := hP
              have hD : va_D A [(h0, .inr (10, fs0)), (a0, .inl (T 0, 4, .inl (upd f38 0 x2))), (a1, .inl (T 1, 4, .inr (.inl f39))), (a2, .inl (T 1, 4, .inr (.inl f40)))] := hD
              refine lv_aload_n hx hb dX13_hold_94 rfl (lv_at hl 2 rfl) ?_
              refine va_get (D := D) (ci := 10) (v := .ref a1) (C := RX13) (T := TX13) (N := 45) hx hb hts in_X13_hold_X13 hown hE.1 hP 0 rfl rfl 39 (by decide) (hts (.fieldLink RX13 120 "ClauseBookModel" "handAbove" "[J") (List.mem_of_getElem? (i := 5) rfl)) (fun _ h9 => h9) e0_39 dX13_hold_95 ?_
              refine lv_iload_n hx hb dX13_hold_98 rfl (lv_at hl 3 rfl) ?_
              refine lv_lload_n hx hb dX13_hold_99 rfl (lv_at hl 5 rfl) ?_
              refine lv_lload hx hb dX13_hold_100 (lv_at hl 0 rfl) ?_
              refine lv_ldiv hx hb dX13_hold_102 (nz64 (by omega)) ?_
              refine va_last hx hb hE.1 hP hD hS 2 1 rfl rfl (by unfold vp_in; decide) dX13_hold_103 (fun H locs hP hD hS => ?_)
              have hP : va_P D vwCl [(h0, .inr (10, fs0)), (a0, .inl (T 0, 4, .inl (upd f38 0 x2))), (a1, .inl (T 1, 4, .inr (.inl (vp_updL f39 0 (x3 / r_10))))), (a2, .inl (T 1, 4, .inr (.inl f40)))] H := hP
              have hD : va_D A [(h0, .inr (10, fs0)), (a0, .inl (T 0, 4, .inl (upd f38 0 x2))), (a1, .inl (T 1, 4, .inr (.inl (vp_updL f39 0 (x3 / r_10))))), (a2, .inl (T 1, 4, .inr (.inl f40)))] := hD
              refine lv_aload_n hx hb dX13_hold_104 rfl (lv_at hl 2 rfl) ?_
              refine va_get (D := D) (ci := 10) (v := .ref a2) (C := RX13) (T := TX13) (N := 45) hx hb hts in_X13_hold_X13 hown hE.1 hP 0 rfl rfl 40 (by decide) (hts (.fieldLink RX13 123 "ClauseBookModel" "handBelow" "[J") (List.mem_of_getElem? (i := 6) rfl)) (fun _ h9 => h9) e0_40 dX13_hold_105 ?_
              refine lv_iload_n hx hb dX13_hold_108 rfl (lv_at hl 3 rfl) ?_
              refine lv_iload_n hx hb dX13_hold_109 rfl (lv_at hl 4 rfl) ?_
              refine lv_iconst (v := 2) hx hb dX13_hold_110 (by decide) ?_
              refine lv_icmp_ne (tgt := 122) hx hb dX13_hold_111 (by decide) (fun c_11 => ?_) (fun c_11 => ?_)
              · rw [fa_eq] at c_11
                try rw [ti_2] at c_11
                refine lv_lconst (v := 1) hx hb dX13_hold_122 (by decide) ?_
                refine va_last hx hb hE.1 hP hD hS 3 1 rfl rfl (by unfold vp_in; decide) dX13_hold_123 (fun H locs hP hD hS => ?_)
                have hP : va_P D vwCl [(h0, .inr (10, fs0)), (a0, .inl (T 0, 4, .inl (upd f38 0 x2))), (a1, .inl (T 1, 4, .inr (.inl (vp_updL f39 0 (x3 / r_10))))), (a2, .inl (T 1, 4, .inr (.inl (vp_updL f40 0 1))))] H := hP
                have hD : va_D A [(h0, .inr (10, fs0)), (a0, .inl (T 0, 4, .inl (upd f38 0 x2))), (a1, .inl (T 1, 4, .inr (.inl (vp_updL f39 0 (x3 / r_10))))), (a2, .inl (T 1, 4, .inr (.inl (vp_updL f40 0 1))))] := hD
                refine lv_iload hx hb dX13_hold_124 (lv_at hl 1 rfl) ?_
                exact W.iret hx hb hr (fun t ht hW => ⟨⟨_, (), rfl, (by first | decide | (unfold sp_hold; (repeat' split) <;> first | rfl | (exfalso; omega))), by rw [ht]; exact hP.sub [] rfl, hD.sub [] (by decide) rfl⟩, hS.F ht⟩) hS.2.2 dX13_hold_126
              · rw [fa_eq] at c_11
                try rw [ti_2] at c_11
                refine lv_lload hx hb dX13_hold_114 (lv_at hl 6 rfl) ?_
                refine lv_lload hx hb dX13_hold_116 (lv_at hl 0 rfl) ?_
                refine lv_ldiv hx hb dX13_hold_118 (nz64 (by omega)) ?_
                refine lv_goto (tgt := 123) hx hb dX13_hold_119 (by decide) ?_
                refine va_last hx hb hE.1 hP hD hS 3 1 rfl rfl (by unfold vp_in; decide) dX13_hold_123 (fun H locs hP hD hS => ?_)
                have hP : va_P D vwCl [(h0, .inr (10, fs0)), (a0, .inl (T 0, 4, .inl (upd f38 0 x2))), (a1, .inl (T 1, 4, .inr (.inl (vp_updL f39 0 (x3 / r_10))))), (a2, .inl (T 1, 4, .inr (.inl (vp_updL f40 0 (x4 / r_10)))))] H := hP
                have hD : va_D A [(h0, .inr (10, fs0)), (a0, .inl (T 0, 4, .inl (upd f38 0 x2))), (a1, .inl (T 1, 4, .inr (.inl (vp_updL f39 0 (x3 / r_10))))), (a2, .inl (T 1, 4, .inr (.inl (vp_updL f40 0 (x4 / r_10)))))] := hD
                refine lv_iload hx hb dX13_hold_124 (lv_at hl 1 rfl) ?_
                exact W.iret hx hb hr (fun t ht hW => ⟨⟨_, (), rfl, (by first | decide | (unfold sp_hold; (repeat' split) <;> first | rfl | (exfalso; omega))), by rw [ht]; exact hP.sub [] rfl, hD.sub [] (by decide) rfl⟩, hS.F ht⟩) hS.2.2 dX13_hold_126
          · refine va_iald hx hb hE.1 hP 1 0 rfl rfl (by unfold vp_in; decide) dX13_hold_67 ?_
            refine lv_topi (fun z_12 ez_12 => ?_)
            obtain rfl : z_12 = 0 := ez_12.trans ef38_1
            refine lv_istore (lv' := [(7, .int 0), (0, .ref h0), (1, .int 1), (2, .int x2), (3, .long x3), (5, .long x4)]) hx hb dX13_hold_68 hl (by decide) rfl (fun ls hl => ?_)
            refine lv_iload_n hx hb dX13_hold_70 rfl (lv_at hl 3 rfl) ?_
            refine lv_iconst (v := 2) hx hb dX13_hold_71 (by decide) ?_
            refine lv_icmp_ne (tgt := 84) hx hb dX13_hold_72 (by decide) (fun c_13 => ?_) (fun c_13 => ?_)
            · rw [fa_eq] at c_13
              try rw [ti_2] at c_13
              refine lv_lconst (v := 1) hx hb dX13_hold_84 (by decide) ?_
              refine lv_lstore (lv' := [(8, .long 1), (7, .int 0), (0, .ref h0), (1, .int 1), (2, .int x2), (3, .long x3), (5, .long x4)]) hx hb dX13_hold_85 hl (by decide) rfl (fun ls hl => ?_)
              refine lv_aload_n hx hb dX13_hold_87 rfl (lv_at hl 2 rfl) ?_
              refine va_get (D := D) (ci := 10) (v := .ref a0) (C := RX13) (T := TX13) (N := 45) hx hb hts in_X13_hold_X13 hown hE.1 hP 0 rfl rfl 38 (by decide) (hts (.fieldLink RX13 117 "ClauseBookModel" "handSort" "[I") (List.mem_of_getElem? (i := 4) rfl)) (fun _ h9 => h9) e0_38 dX13_hold_88 ?_
              refine lv_iload_n hx hb dX13_hold_91 rfl (lv_at hl 3 rfl) ?_
              refine lv_iload_n hx hb dX13_hold_92 rfl (lv_at hl 4 rfl) ?_
              refine va_iast hx hb hE.1 hP hD hS 1 0 rfl rfl (by unfold vp_in; decide) dX13_hold_93 (fun H locs hP hD hS => ?_)
              have hP : va_P D vwCl [(h0, .inr (10, fs0)), (a0, .inl (T 0, 4, .inl (upd f38 1 x2))), (a1, .inl (T 1, 4, .inr (.inl f39))), (a2, .inl (T 1, 4, .inr (.inl f40)))] H := hP
              have hD : va_D A [(h0, .inr (10, fs0)), (a0, .inl (T 0, 4, .inl (upd f38 1 x2))), (a1, .inl (T 1, 4, .inr (.inl f39))), (a2, .inl (T 1, 4, .inr (.inl f40)))] := hD
              refine lv_aload_n hx hb dX13_hold_94 rfl (lv_at hl 2 rfl) ?_
              refine va_get (D := D) (ci := 10) (v := .ref a1) (C := RX13) (T := TX13) (N := 45) hx hb hts in_X13_hold_X13 hown hE.1 hP 0 rfl rfl 39 (by decide) (hts (.fieldLink RX13 120 "ClauseBookModel" "handAbove" "[J") (List.mem_of_getElem? (i := 5) rfl)) (fun _ h9 => h9) e0_39 dX13_hold_95 ?_
              refine lv_iload_n hx hb dX13_hold_98 rfl (lv_at hl 3 rfl) ?_
              refine lv_lload_n hx hb dX13_hold_99 rfl (lv_at hl 5 rfl) ?_
              refine lv_lload hx hb dX13_hold_100 (lv_at hl 0 rfl) ?_
              refine lv_ldiv hx hb dX13_hold_102 (by decide) ?_
              refine va_last hx hb hE.1 hP hD hS 2 1 rfl rfl (by unfold vp_in; decide) dX13_hold_103 (fun H locs hP hD hS => ?_)
              have hP : va_P D vwCl [(h0, .inr (10, fs0)), (a0, .inl (T 0, 4, .inl (upd f38 1 x2))), (a1, .inl (T 1, 4, .inr (.inl (vp_updL f39 1 (x3 / 1))))), (a2, .inl (T 1, 4, .inr (.inl f40)))] H := hP
              have hD : va_D A [(h0, .inr (10, fs0)), (a0, .inl (T 0, 4, .inl (upd f38 1 x2))), (a1, .inl (T 1, 4, .inr (.inl (vp_updL f39 1 (x3 / 1))))), (a2, .inl (T 1, 4, .inr (.inl f40)))] := hD
              refine lv_aload_n hx hb dX13_hold_104 rfl (lv_at hl 2 rfl) ?_
              refine va_get (D := D) (ci := 10) (v := .ref a2) (C := RX13) (T := TX13) (N := 45) hx hb hts in_X13_hold_X13 hown hE.1 hP 0 rfl rfl 40 (by decide) (hts (.fieldLink RX13 123 "ClauseBookModel" "handBelow" "[J") (List.mem_of_getElem? (i := 6) rfl)) (fun _ h9 => h9) e0_40 dX13_hold_105 ?_
              refine lv_iload_n hx hb dX13_hold_108 rfl (lv_at hl 3 rfl) ?_
              refine lv_iload_n hx hb dX13_hold_109 rfl (lv_at hl 4 rfl) ?_
              refine lv_iconst (v := 2) hx hb dX13_hold_110 (by decide) ?_
              refine lv_icmp_ne (tgt := 122) hx hb dX13_hold_111 (by decide) (fun c_14 => ?_) (fun c_14 => ?_)
              · rw [fa_eq] at c_14
                try rw [ti_2] at c_14
                refine lv_lconst (v := 1) hx hb dX13_hold_122 (by decide) ?_
                refine va_last hx hb hE.1 hP hD hS 3 1 rfl rfl (by unfold vp_in; decide) dX13_hold_123 (fun H locs hP hD hS => ?_)
                have hP : va_P D vwCl [(h0, .inr (10, fs0)), (a0, .inl (T 0, 4, .inl (upd f38 1 x2))), (a1, .inl (T 1, 4, .inr (.inl (vp_updL f39 1 (x3 / 1))))), (a2, .inl (T 1, 4, .inr (.inl (vp_updL f40 1 1))))] H := hP
                have hD : va_D A [(h0, .inr (10, fs0)), (a0, .inl (T 0, 4, .inl (upd f38 1 x2))), (a1, .inl (T 1, 4, .inr (.inl (vp_updL f39 1 (x3 / 1))))), (a2, .inl (T 1, 4, .inr (.inl (vp_updL f40 1 1))))] := hD
                refine lv_iload hx hb dX13_hold_124 (lv_at hl 1 rfl) ?_
                exact W.iret hx hb hr (fun t ht hW => ⟨⟨_, (), rfl, (by first | decide | (unfold sp_hold; (repeat' split) <;> first | rfl | (exfalso; omega))), by rw [ht]; exact hP.sub [] rfl, hD.sub [] (by decide) rfl⟩, hS.F ht⟩) hS.2.2 dX13_hold_126
              · rw [fa_eq] at c_14
                try rw [ti_2] at c_14
                refine lv_lload hx hb dX13_hold_114 (lv_at hl 6 rfl) ?_
                refine lv_lload hx hb dX13_hold_116 (lv_at hl 0 rfl) ?_
                refine lv_ldiv hx hb dX13_hold_118 (by decide) ?_
                refine lv_goto (tgt := 123) hx hb dX13_hold_119 (by decide) ?_
                refine va_last hx hb hE.1 hP hD hS 3 1 rfl rfl (by unfold vp_in; decide) dX13_hold_123 (fun H locs hP hD hS => ?_)
                have hP : va_P D vwCl [(h0, .inr (10, fs0)), (a0, .inl (T 0, 4, .inl (upd f38 1 x2))), (a1, .inl (T 1, 4, .inr (.inl (vp_updL f39 1 (x3 / 1))))), (a2, .inl (T 1, 4, .inr (.inl (vp_updL f40 1 (x4 / 1)))))] H := hP
                have hD : va_D A [(h0, .inr (10, fs0)), (a0, .inl (T 0, 4, .inl (upd f38 1 x2))), (a1, .inl (T 1, 4, .inr (.inl (vp_updL f39 1 (x3 / 1))))), (a2, .inl (T 1, 4, .inr (.inl (vp_updL f40 1 (x4 / 1)))))] := hD
                refine lv_iload hx hb dX13_hold_124 (lv_at hl 1 rfl) ?_
                exact W.iret hx hb hr (fun t ht hW => ⟨⟨_, (), rfl, (by first | decide | (unfold sp_hold; (repeat' split) <;> first | rfl | (exfalso; omega))), by rw [ht]; exact hP.sub [] rfl, hD.sub [] (by decide) rfl⟩, hS.F ht⟩) hS.2.2 dX13_hold_126
            · rw [fa_eq] at c_13
              try rw [ti_2] at c_13
              refine lv_lload_n hx hb dX13_hold_75 rfl (lv_at hl 4 rfl) ?_
              refine lv_lload hx hb dX13_hold_76 (lv_at hl 5 rfl) ?_
              refine vp_callSl (W.runS (As := [.long x3, .long x4]) (rest := []) ⟨hx, hb, hml, hown, hts⟩ (c_X13_divisor l D T x3 x4 (by omega)) (va_cwS 2 hts gX13_hold_X13_divisor rfl rfl rfl (by decide +kernel) ⟨Nat.le_of_ble_eq_true rfl, Nat.le_of_ble_eq_true rfl⟩) (pR_S hP hE [] rfl) rfl rfl hl.1 rfl (lv_room (Nat.le_of_ble_eq_true rfl)) dX13_hold_78 ⟨Nat.le_of_ble_eq_true rfl, Nat.le_of_ble_eq_true rfl⟩) (fun r_15 hr_15 => ?_)
              refine lv_goto (tgt := 85) hx hb dX13_hold_81 (by decide) ?_
              refine lv_lstore (lv' := [(8, .long r_15), (7, .int 0), (0, .ref h0), (1, .int 1), (2, .int x2), (3, .long x3), (5, .long x4)]) hx hb dX13_hold_85 hl (by decide) rfl (fun ls hl => ?_)
              refine lv_aload_n hx hb dX13_hold_87 rfl (lv_at hl 2 rfl) ?_
              refine va_get (D := D) (ci := 10) (v := .ref a0) (C := RX13) (T := TX13) (N := 45) hx hb hts in_X13_hold_X13 hown hE.1 hP 0 rfl rfl 38 (by decide) (hts (.fieldLink RX13 117 "ClauseBookModel" "handSort" "[I") (List.mem_of_getElem? (i := 4) rfl)) (fun _ h9 => h9) e0_38 dX13_hold_88 ?_
              refine lv_iload_n hx hb dX13_hold_91 rfl (lv_at hl 3 rfl) ?_
              refine lv_iload_n hx hb dX13_hold_92 rfl (lv_at hl 4 rfl) ?_
              refine va_iast hx hb hE.1 hP hD hS 1 0 rfl rfl (by unfold vp_in; decide) dX13_hold_93 (fun H locs hP hD hS => ?_)
              have hP : va_P D vwCl [(h0, .inr (10, fs0)), (a0, .inl (T 0, 4, .inl (upd f38 1 x2))), (a1, .inl (T 1, 4, .inr (.inl f39))), (a2, .inl (T 1, 4, .inr (.inl f40)))] H := hP
              have hD : va_D A [(h0, .inr (10, fs0)), (a0, .inl (T 0, 4, .inl (upd f38 1 x2))), (a1, .inl (T 1, 4, .inr (.inl f39))), (a2, .inl (T 1, 4, .inr (.inl f40)))] := hD
              refine lv_aload_n hx hb dX13_hold_94 rfl (lv_at hl 2 rfl) ?_
              refine va_get (D := D) (ci := 10) (v := .ref a1) (C := RX13) (T := TX13) (N := 45) hx hb hts in_X13_hold_X13 hown hE.1 hP 0 rfl rfl 39 (by decide) (hts (.fieldLink RX13 120 "ClauseBookModel" "handAbove" "[J") (List.mem_of_getElem? (i := 5) rfl)) (fun _ h9 => h9) e0_39 dX13_hold_95 ?_
              refine lv_iload_n hx hb dX13_hold_98 rfl (lv_at hl 3 rfl) ?_
              refine lv_lload_n hx hb dX13_hold_99 rfl (lv_at hl 5 rfl) ?_
              refine lv_lload hx hb dX13_hold_100 (lv_at hl 0 rfl) ?_
              refine lv_ldiv hx hb dX13_hold_102 (nz64 (by omega)) ?_
              refine va_last hx hb hE.1 hP hD hS 2 1 rfl rfl (by unfold vp_in; decide) dX13_hold_103 (fun H locs hP hD hS => ?_)
              have hP : va_P D vwCl [(h0, .inr (10, fs0)), (a0, .inl (T 0, 4, .inl (upd f38 1 x2))), (a1, .inl (T 1, 4, .inr (.inl (vp_updL f39 1 (x3 / r_15))))), (a2, .inl (T 1, 4, .inr (.inl f40)))] H := hP
              have hD : va_D A [(h0, .inr (10, fs0)), (a0, .inl (T 0, 4, .inl (upd f38 1 x2))), (a1, .inl (T 1, 4, .inr (.inl (vp_updL f39 1 (x3 / r_15))))), (a2, .inl (T 1, 4, .inr (.inl f40)))] := hD
              refine lv_aload_n hx hb dX13_hold_104 rfl (lv_at hl 2 rfl) ?_
              refine va_get (D := D) (ci := 10) (v := .ref a2) (C := RX13) (T := TX13) (N := 45) hx hb hts in_X13_hold_X13 hown hE.1 hP 0 rfl rfl 40 (by decide) (hts (.fieldLink RX13 123 "ClauseBookModel" "handBelow" "[J") (List.mem_of_getElem? (i := 6) rfl)) (fun _ h9 => h9) e0_40 dX13_hold_105 ?_
              refine lv_iload_n hx hb dX13_hold_108 rfl (lv_at hl 3 rfl) ?_
              refine lv_iload_n hx hb dX13_hold_109 rfl (lv_at hl 4 rfl) ?_
              refine lv_iconst (v := 2) hx hb dX13_hold_110 (by decide) ?_
              refine lv_icmp_ne (tgt := 122) hx hb dX13_hold_111 (by decide) (fun c_16 => ?_) (fun c_16 => ?_)
              · rw [fa_eq] at c_16
                try rw [ti_2] at c_16
                refine lv_lconst (v := 1) hx hb dX13_hold_122 (by decide) ?_
                refine va_last hx hb hE.1 hP hD hS 3 1 rfl rfl (by unfold vp_in; decide) dX13_hold_123 (fun H locs hP hD hS => ?_)
                have hP : va_P D vwCl [(h0, .inr (10, fs0)), (a0, .inl (T 0, 4, .inl (upd f38 1 x2))), (a1, .inl (T 1, 4, .inr (.inl (vp_updL f39 1 (x3 / r_15))))), (a2, .inl (T 1, 4, .inr (.inl (vp_updL f40 1 1))))] H := hP
                have hD : va_D A [(h0, .inr (10, fs0)), (a0, .inl (T 0, 4, .inl (upd f38 1 x2))), (a1, .inl (T 1, 4, .inr (.inl (vp_updL f39 1 (x3 / r_15))))), (a2, .inl (T 1, 4, .inr (.inl (vp_updL f40 1 1))))] := hD
                refine lv_iload hx hb dX13_hold_124 (lv_at hl 1 rfl) ?_
                exact W.iret hx hb hr (fun t ht hW => ⟨⟨_, (), rfl, (by first | decide | (unfold sp_hold; (repeat' split) <;> first | rfl | (exfalso; omega))), by rw [ht]; exact hP.sub [] rfl, hD.sub [] (by decide) rfl⟩, hS.F ht⟩) hS.2.2 dX13_hold_126
              · rw [fa_eq] at c_16
                try rw [ti_2] at c_16
                refine lv_lload hx hb dX13_hold_114 (lv_at hl 6 rfl) ?_
                refine lv_lload hx hb dX13_hold_116 (lv_at hl 0 rfl) ?_
                refine lv_ldiv hx hb dX13_hold_118 (nz64 (by omega)) ?_
                refine lv_goto (tgt := 123) hx hb dX13_hold_119 (by decide) ?_
                refine va_last hx hb hE.1 hP hD hS 3 1 rfl rfl (by unfold vp_in; decide) dX13_hold_123 (fun H locs hP hD hS => ?_)
                have hP : va_P D vwCl [(h0, .inr (10, fs0)), (a0, .inl (T 0, 4, .inl (upd f38 1 x2))), (a1, .inl (T 1, 4, .inr (.inl (vp_updL f39 1 (x3 / r_15))))), (a2, .inl (T 1, 4, .inr (.inl (vp_updL f40 1 (x4 / r_15)))))] H := hP
                have hD : va_D A [(h0, .inr (10, fs0)), (a0, .inl (T 0, 4, .inl (upd f38 1 x2))), (a1, .inl (T 1, 4, .inr (.inl (vp_updL f39 1 (x3 / r_15))))), (a2, .inl (T 1, 4, .inr (.inl (vp_updL f40 1 (x4 / r_15)))))] := hD
                refine lv_iload hx hb dX13_hold_124 (lv_at hl 1 rfl) ?_
                exact W.iret hx hb hr (fun t ht hW => ⟨⟨_, (), rfl, (by first | decide | (unfold sp_hold; (repeat' split) <;> first | rfl | (exfalso; omega))), by rw [ht]; exact hP.sub [] rfl, hD.sub [] (by decide) rfl⟩, hS.F ht⟩) hS.2.2 dX13_hold_126
          · refine va_iald hx hb hE.1 hP 1 0 rfl rfl (by unfold vp_in; decide) dX13_hold_67 ?_
            refine lv_topi (fun z_17 ez_17 => ?_)
            obtain rfl : z_17 = 0 := ez_17.trans ef38_2
            refine lv_istore (lv' := [(7, .int 0), (0, .ref h0), (1, .int 2), (2, .int x2), (3, .long x3), (5, .long x4)]) hx hb dX13_hold_68 hl (by decide) rfl (fun ls hl => ?_)
            refine lv_iload_n hx hb dX13_hold_70 rfl (lv_at hl 3 rfl) ?_
            refine lv_iconst (v := 2) hx hb dX13_hold_71 (by decide) ?_
            refine lv_icmp_ne (tgt := 84) hx hb dX13_hold_72 (by decide) (fun c_18 => ?_) (fun c_18 => ?_)
            · rw [fa_eq] at c_18
              try rw [ti_2] at c_18
              refine lv_lconst (v := 1) hx hb dX13_hold_84 (by decide) ?_
              refine lv_lstore (lv' := [(8, .long 1), (7, .int 0), (0, .ref h0), (1, .int 2), (2, .int x2), (3, .long x3), (5, .long x4)]) hx hb dX13_hold_85 hl (by decide) rfl (fun ls hl => ?_)
              refine lv_aload_n hx hb dX13_hold_87 rfl (lv_at hl 2 rfl) ?_
              refine va_get (D := D) (ci := 10) (v := .ref a0) (C := RX13) (T := TX13) (N := 45) hx hb hts in_X13_hold_X13 hown hE.1 hP 0 rfl rfl 38 (by decide) (hts (.fieldLink RX13 117 "ClauseBookModel" "handSort" "[I") (List.mem_of_getElem? (i := 4) rfl)) (fun _ h9 => h9) e0_38 dX13_hold_88 ?_
              refine lv_iload_n hx hb dX13_hold_91 rfl (lv_at hl 3 rfl) ?_
              refine lv_iload_n hx hb dX13_hold_92 rfl (lv_at hl 4 rfl) ?_
              refine va_iast hx hb hE.1 hP hD hS 1 0 rfl rfl (by unfold vp_in; decide) dX13_hold_93 (fun H locs hP hD hS => ?_)
              have hP : va_P D vwCl [(h0, .inr (10, fs0)), (a0, .inl (T 0, 4, .inl (upd f38 2 x2))), (a1, .inl (T 1, 4, .inr (.inl f39))), (a2, .inl (T 1, 4, .inr (.inl f40)))] H := hP
              have hD : va_D A [(h0, .inr (10, fs0)), (a0, .inl (T 0, 4, .inl (upd f38 2 x2))), (a1, .inl (T 1, 4, .inr (.inl f39))), (a2, .inl (T 1, 4, .inr (.inl f40)))] := hD
              refine lv_aload_n hx hb dX13_hold_94 rfl (lv_at hl 2 rfl) ?_
              refine va_get (D := D) (ci := 10) (v := .ref a1) (C := RX13) (T := TX13) (N := 45) hx hb hts in_X13_hold_X13 hown hE.1 hP 0 rfl rfl 39 (by decide) (hts (.fieldLink RX13 120 "ClauseBookModel" "handAbove" "[J") (List.mem_of_getElem? (i := 5) rfl)) (fun _ h9 => h9) e0_39 dX13_hold_95 ?_
              refine lv_iload_n hx hb dX13_hold_98 rfl (lv_at hl 3 rfl) ?_
              refine lv_lload_n hx hb dX13_hold_99 rfl (lv_at hl 5 rfl) ?_
              refine lv_lload hx hb dX13_hold_100 (lv_at hl 0 rfl) ?_
              refine lv_ldiv hx hb dX13_hold_102 (by decide) ?_
              refine va_last hx hb hE.1 hP hD hS 2 1 rfl rfl (by unfold vp_in; decide) dX13_hold_103 (fun H locs hP hD hS => ?_)
              have hP : va_P D vwCl [(h0, .inr (10, fs0)), (a0, .inl (T 0, 4, .inl (upd f38 2 x2))), (a1, .inl (T 1, 4, .inr (.inl (vp_updL f39 2 (x3 / 1))))), (a2, .inl (T 1, 4, .inr (.inl f40)))] H := hP
              have hD : va_D A [(h0, .inr (10, fs0)), (a0, .inl (T 0, 4, .inl (upd f38 2 x2))), (a1, .inl (T 1, 4, .inr (.inl (vp_updL f39 2 (x3 / 1))))), (a2, .inl (T 1, 4, .inr (.inl f40)))] := hD
              refine lv_aload_n hx hb dX13_hold_104 rfl (lv_at hl 2 rfl) ?_
              refine va_get (D := D) (ci := 10) (v := .ref a2) (C := RX13) (T := TX13) (N := 45) hx hb hts in_X13_hold_X13 hown hE.1 hP 0 rfl rfl 40 (by decide) (hts (.fieldLink RX13 123 "ClauseBookModel" "handBelow" "[J") (List.mem_of_getElem? (i := 6) rfl)) (fun _ h9 => h9) e0_40 dX13_hold_105 ?_
              refine lv_iload_n hx hb dX13_hold_108 rfl (lv_at hl 3 rfl) ?_
              refine lv_iload_n hx hb dX13_hold_109 rfl (lv_at hl 4 rfl) ?_
              refine lv_iconst (v := 2) hx hb dX13_hold_110 (by decide) ?_
              refine lv_icmp_ne (tgt := 122) hx hb dX13_hold_111 (by decide) (fun c_19 => ?_) (fun c_19 => ?_)
              · rw [fa_eq] at c_19
                try rw [ti_2] at c_19
                refine lv_lconst (v := 1) hx hb dX13_hold_122 (by decide) ?_
                refine va_last hx hb hE.1 hP hD hS 3 1 rfl rfl (by unfold vp_in; decide) dX13_hold_123 (fun H locs hP hD hS => ?_)
                have hP : va_P D vwCl [(h0, .inr (10, fs0)), (a0, .inl (T 0, 4, .inl (upd f38 2 x2))), (a1, .inl (T 1, 4, .inr (.inl (vp_updL f39 2 (x3 / 1))))), (a2, .inl (T 1, 4, .inr (.inl (vp_updL f40 2 1))))] H := hP
                have hD : va_D A [(h0, .inr (10, fs0)), (a0, .inl (T 0, 4, .inl (upd f38 2 x2))), (a1, .inl (T 1, 4, .inr (.inl (vp_updL f39 2 (x3 / 1))))), (a2, .inl (T 1, 4, .inr (.inl (vp_updL f40 2 1))))] := hD
                refine lv_iload hx hb dX13_hold_124 (lv_at hl 1 rfl) ?_
                exact W.iret hx hb hr (fun t ht hW => ⟨⟨_, (), rfl, (by first | decide | (unfold sp_hold; (repeat' split) <;> first | rfl | (exfalso; omega))), by rw [ht]; exact hP.sub [] rfl, hD.sub [] (by decide) rfl⟩, hS.F ht⟩) hS.2.2 dX13_hold_126
              · rw [fa_eq] at c_19
                try rw [ti_2] at c_19
                refine lv_lload hx hb dX13_hold_114 (lv_at hl 6 rfl) ?_
                refine lv_lload hx hb dX13_hold_116 (lv_at hl 0 rfl) ?_
                refine lv_ldiv hx hb dX13_hold_118 (by decide) ?_
                refine lv_goto (tgt := 123) hx hb dX13_hold_119 (by decide) ?_
                refine va_last hx hb hE.1 hP hD hS 3 1 rfl rfl (by unfold vp_in; decide) dX13_hold_123 (fun H locs hP hD hS => ?_)
                have hP : va_P D vwCl [(h0, .inr (10, fs0)), (a0, .inl (T 0, 4, .inl (upd f38 2 x2))), (a1, .inl (T 1, 4, .inr (.inl (vp_updL f39 2 (x3 / 1))))), (a2, .inl (T 1, 4, .inr (.inl (vp_updL f40 2 (x4 / 1)))))] H := hP
                have hD : va_D A [(h0, .inr (10, fs0)), (a0, .inl (T 0, 4, .inl (upd f38 2 x2))), (a1, .inl (T 1, 4, .inr (.inl (vp_updL f39 2 (x3 / 1))))), (a2, .inl (T 1, 4, .inr (.inl (vp_updL f40 2 (x4 / 1)))))] := hD
                refine lv_iload hx hb dX13_hold_124 (lv_at hl 1 rfl) ?_
                exact W.iret hx hb hr (fun t ht hW => ⟨⟨_, (), rfl, (by first | decide | (unfold sp_hold; (repeat' split) <;> first | rfl | (exfalso; omega))), by rw [ht]; exact hP.sub [] rfl, hD.sub [] (by decide) rfl⟩, hS.F ht⟩) hS.2.2 dX13_hold_126
            · rw [fa_eq] at c_18
              try rw [ti_2] at c_18
              refine lv_lload_n hx hb dX13_hold_75 rfl (lv_at hl 4 rfl) ?_
              refine lv_lload hx hb dX13_hold_76 (lv_at hl 5 rfl) ?_
              refine vp_callSl (W.runS (As := [.long x3, .long x4]) (rest := []) ⟨hx, hb, hml, hown, hts⟩ (c_X13_divisor l D T x3 x4 (by omega)) (va_cwS 2 hts gX13_hold_X13_divisor rfl rfl rfl (by decide +kernel) ⟨Nat.le_of_ble_eq_true rfl, Nat.le_of_ble_eq_true rfl⟩) (pR_S hP hE [] rfl) rfl rfl hl.1 rfl (lv_room (Nat.le_of_ble_eq_true rfl)) dX13_hold_78 ⟨Nat.le_of_ble_eq_true rfl, Nat.le_of_ble_eq_true rfl⟩) (fun r_20 hr_20 => ?_)
              refine lv_goto (tgt := 85) hx hb dX13_hold_81 (by decide) ?_
              refine lv_lstore (lv' := [(8, .long r_20), (7, .int 0), (0, .ref h0), (1, .int 2), (2, .int x2), (3, .long x3), (5, .long x4)]) hx hb dX13_hold_85 hl (by decide) rfl (fun ls hl => ?_)
              refine lv_aload_n hx hb dX13_hold_87 rfl (lv_at hl 2 rfl) ?_
              refine va_get (D := D) (ci := 10) (v := .ref a0) (C := RX13) (T := TX13) (N := 45) hx hb hts in_X13_hold_X13 hown hE.1 hP 0 rfl rfl 38 (by decide) (hts (.fieldLink RX13 117 "ClauseBookModel" "handSort" "[I") (List.mem_of_getElem? (i := 4) rfl)) (fun _ h9 => h9) e0_38 dX13_hold_88 ?_
              refine lv_iload_n hx hb dX13_hold_91 rfl (lv_at hl 3 rfl) ?_
              refine lv_iload_n hx hb dX13_hold_92 rfl (lv_at hl 4 rfl) ?_
              refine va_iast hx hb hE.1 hP hD hS 1 0 rfl rfl (by unfold vp_in; decide) dX13_hold_93 (fun H locs hP hD hS => ?_)
              have hP : va_P D vwCl [(h0, .inr (10, fs0)), (a0, .inl (T 0, 4, .inl (upd f38 2 x2))), (a1, .inl (T 1, 4, .inr (.inl f39))), (a2, .inl (T 1, 4, .inr (.inl f40)))] H := hP
              have hD : va_D A [(h0, .inr (10, fs0)), (a0, .inl (T 0, 4, .inl (upd f38 2 x2))), (a1, .inl (T 1, 4, .inr (.inl f39))), (a2, .inl (T 1, 4, .inr (.inl f40)))] := hD
              refine lv_aload_n hx hb dX13_hold_94 rfl (lv_at hl 2 rfl) ?_
              refine va_get (D := D) (ci := 10) (v := .ref a1) (C := RX13) (T := TX13) (N := 45) hx hb hts in_X13_hold_X13 hown hE.1 hP 0 rfl rfl 39 (by decide) (hts (.fieldLink RX13 120 "ClauseBookModel" "handAbove" "[J") (List.mem_of_getElem? (i := 5) rfl)) (fun _ h9 => h9) e0_39 dX13_hold_95 ?_
              refine lv_iload_n hx hb dX13_hold_98 rfl (lv_at hl 3 rfl) ?_
              refine lv_lload_n hx hb dX13_hold_99 rfl (lv_at hl 5 rfl) ?_
              refine lv_lload hx hb dX13_hold_100 (lv_at hl 0 rfl) ?_
              refine lv_ldiv hx hb dX13_hold_102 (nz64 (by omega)) ?_
              refine va_last hx hb hE.1 hP hD hS 2 1 rfl rfl (by unfold vp_in; decide) dX13_hold_103 (fun H locs hP hD hS => ?_)
              have hP : va_P D vwCl [(h0, .inr (10, fs0)), (a0, .inl (T 0, 4, .inl (upd f38 2 x2))), (a1, .inl (T 1, 4, .inr (.inl (vp_updL f39 2 (x3 / r_20))))), (a2, .inl (T 1, 4, .inr (.inl f40)))] H := hP
              have hD : va_D A [(h0, .inr (10, fs0)), (a0, .inl (T 0, 4, .inl (upd f38 2 x2))), (a1, .inl (T 1, 4, .inr (.inl (vp_updL f39 2 (x3 / r_20))))), (a2, .inl (T 1, 4, .inr (.inl f40)))] := hD
              refine lv_aload_n hx hb dX13_hold_104 rfl (lv_at hl 2 rfl) ?_
              refine va_get (D := D) (ci := 10) (v := .ref a2) (C := RX13) (T := TX13) (N := 45) hx hb hts in_X13_hold_X13 hown hE.1 hP 0 rfl rfl 40 (by decide) (hts (.fieldLink RX13 123 "ClauseBookModel" "handBelow" "[J") (List.mem_of_getElem? (i := 6) rfl)) (fun _ h9 => h9) e0_40 dX13_hold_105 ?_
              refine lv_iload_n hx hb dX13_hold_108 rfl (lv_at hl 3 rfl) ?_
              refine lv_iload_n hx hb dX13_hold_109 rfl (lv_at hl 4 rfl) ?_
              refine lv_iconst (v := 2) hx hb dX13_hold_110 (by decide) ?_
              refine lv_icmp_ne (tgt := 122) hx hb dX13_hold_111 (by decide) (fun c_21 => ?_) (fun c_21 => ?_)
              · rw [fa_eq] at c_21
                try rw [ti_2] at c_21
                refine lv_lconst (v := 1) hx hb dX13_hold_122 (by decide) ?_
                refine va_last hx hb hE.1 hP hD hS 3 1 rfl rfl (by unfold vp_in; decide) dX13_hold_123 (fun H locs hP hD hS => ?_)
                have hP : va_P D vwCl [(h0, .inr (10, fs0)), (a0, .inl (T 0, 4, .inl (upd f38 2 x2))), (a1, .inl (T 1, 4, .inr (.inl (vp_updL f39 2 (x3 / r_20))))), (a2, .inl (T 1, 4, .inr (.inl (vp_updL f40 2 1))))] H := hP
                have hD : va_D A [(h0, .inr (10, fs0)), (a0, .inl (T 0, 4, .inl (upd f38 2 x2))), (a1, .inl (T 1, 4, .inr (.inl (vp_updL f39 2 (x3 / r_20))))), (a2, .inl (T 1, 4, .inr (.inl (vp_updL f40 2 1))))] := hD
                refine lv_iload hx hb dX13_hold_124 (lv_at hl 1 rfl) ?_
                exact W.iret hx hb hr (fun t ht hW => ⟨⟨_, (), rfl, (by first | decide | (unfold sp_hold; (repeat' split) <;> first | rfl | (exfalso; omega))), by rw [ht]; exact hP.sub [] rfl, hD.sub [] (by decide) rfl⟩, hS.F ht⟩) hS.2.2 dX13_hold_126
              · rw [fa_eq] at c_21
                try rw [ti_2] at c_21
                refine lv_lload hx hb dX13_hold_114 (lv_at hl 6 rfl) ?_
                refine lv_lload hx hb dX13_hold_116 (lv_at hl 0 rfl) ?_
                refine lv_ldiv hx hb dX13_hold_118 (nz64 (by omega)) ?_
                refine lv_goto (tgt := 123) hx hb dX13_hold_119 (by decide) ?_
                refine va_last hx hb hE.1 hP hD hS 3 1 rfl rfl (by unfold vp_in; decide) dX13_hold_123 (fun H locs hP hD hS => ?_)
                have hP : va_P D vwCl [(h0, .inr (10, fs0)), (a0, .inl (T 0, 4, .inl (upd f38 2 x2))), (a1, .inl (T 1, 4, .inr (.inl (vp_updL f39 2 (x3 / r_20))))), (a2, .inl (T 1, 4, .inr (.inl (vp_updL f40 2 (x4 / r_20)))))] H := hP
                have hD : va_D A [(h0, .inr (10, fs0)), (a0, .inl (T 0, 4, .inl (upd f38 2 x2))), (a1, .inl (T 1, 4, .inr (.inl (vp_updL f39 2 (x3 / r_20))))), (a2, .inl (T 1, 4, .inr (.inl (vp_updL f40 2 (x4 / r_20)))))] := hD
                refine lv_iload hx hb dX13_hold_124 (lv_at hl 1 rfl) ?_
                exact W.iret hx hb hr (fun t ht hW => ⟨⟨_, (), rfl, (by first | decide | (unfold sp_hold; (repeat' split) <;> first | rfl | (exfalso; omega))), by rw [ht]; exact hP.sub [] rfl, hD.sub [] (by decide) rfl⟩, hS.F ht⟩) hS.2.2 dX13_hold_126
          · refine va_iald hx hb hE.1 hP 1 0 rfl rfl (by unfold vp_in; decide) dX13_hold_67 ?_
            refine lv_topi (fun z_22 ez_22 => ?_)
            obtain rfl : z_22 = 0 := ez_22.trans ef38_3
            refine lv_istore (lv' := [(7, .int 0), (0, .ref h0), (1, .int 3), (2, .int x2), (3, .long x3), (5, .long x4)]) hx hb dX13_hold_68 hl (by decide) rfl (fun ls hl => ?_)
            refine lv_iload_n hx hb dX13_hold_70 rfl (lv_at hl 3 rfl) ?_
            refine lv_iconst (v := 2) hx hb dX13_hold_71 (by decide) ?_
            refine lv_icmp_ne (tgt := 84) hx hb dX13_hold_72 (by decide) (fun c_23 => ?_) (fun c_23 => ?_)
            · rw [fa_eq] at c_23
              try rw [ti_2] at c_23
              refine lv_lconst (v := 1) hx hb dX13_hold_84 (by decide) ?_
              refine lv_lstore (lv' := [(8, .long 1), (7, .int 0), (0, .ref h0), (1, .int 3), (2, .int x2), (3, .long x3), (5, .long x4)]) hx hb dX13_hold_85 hl (by decide) rfl (fun ls hl => ?_)
              refine lv_aload_n hx hb dX13_hold_87 rfl (lv_at hl 2 rfl) ?_
              refine va_get (D := D) (ci := 10) (v := .ref a0) (C := RX13) (T := TX13) (N := 45) hx hb hts in_X13_hold_X13 hown hE.1 hP 0 rfl rfl 38 (by decide) (hts (.fieldLink RX13 117 "ClauseBookModel" "handSort" "[I") (List.mem_of_getElem? (i := 4) rfl)) (fun _ h9 => h9) e0_38 dX13_hold_88 ?_
              refine lv_iload_n hx hb dX13_hold_91 rfl (lv_at hl 3 rfl) ?_
              refine lv_iload_n hx hb dX13_hold_92 rfl (lv_at hl 4 rfl) ?_
              refine va_iast hx hb hE.1 hP hD hS 1 0 rfl rfl (by unfold vp_in; decide) dX13_hold_93 (fun H locs hP hD hS => ?_)
              have hP : va_P D vwCl [(h0, .inr (10, fs0)), (a0, .inl (T 0, 4, .inl (upd f38 3 x2))), (a1, .inl (T 1, 4, .inr (.inl f39))), (a2, .inl (T 1, 4, .inr (.inl f40)))] H := hP
              have hD : va_D A [(h0, .inr (10, fs0)), (a0, .inl (T 0, 4, .inl (upd f38 3 x2))), (a1, .inl (T 1, 4, .inr (.inl f39))), (a2, .inl (T 1, 4, .inr (.inl f40)))] := hD
              refine lv_aload_n hx hb dX13_hold_94 rfl (lv_at hl 2 rfl) ?_
              refine va_get (D := D) (ci := 10) (v := .ref a1) (C := RX13) (T := TX13) (N := 45) hx hb hts in_X13_hold_X13 hown hE.1 hP 0 rfl rfl 39 (by decide) (hts (.fieldLink RX13 120 "ClauseBookModel" "handAbove" "[J") (List.mem_of_getElem? (i := 5) rfl)) (fun _ h9 => h9) e0_39 dX13_hold_95 ?_
              refine lv_iload_n hx hb dX13_hold_98 rfl (lv_at hl 3 rfl) ?_
              refine lv_lload_n hx hb dX13_hold_99 rfl (lv_at hl 5 rfl) ?_
              refine lv_lload hx hb dX13_hold_100 (lv_at hl 0 rfl) ?_
              refine lv_ldiv hx hb dX13_hold_102 (by decide) ?_
              refine va_last hx hb hE.1 hP hD hS 2 1 rfl rfl (by unfold vp_in; decide) dX13_hold_103 (fun H locs hP hD hS => ?_)
              have hP : va_P D vwCl [(h0, .inr (10, fs0)), (a0, .inl (T 0, 4, .inl (upd f38 3 x2))), (a1, .inl (T 1, 4, .inr (.inl (vp_updL f39 3 (x3 / 1))))), (a2, .inl (T 1, 4, .inr (.inl f40)))] H := hP
              have hD : va_D A [(h0, .inr (10, fs0)), (a0, .inl (T 0, 4, .inl (upd f38 3 x2))), (a1, .inl (T 1, 4, .inr (.inl (vp_updL f39 3 (x3 / 1))))), (a2, .inl (T 1, 4, .inr (.inl f40)))] := hD
              refine lv_aload_n hx hb dX13_hold_104 rfl (lv_at hl 2 rfl) ?_
              refine va_get (D := D) (ci := 10) (v := .ref a2) (C := RX13) (T := TX13) (N := 45) hx hb hts in_X13_hold_X13 hown hE.1 hP 0 rfl rfl 40 (by decide) (hts (.fieldLink RX13 123 "ClauseBookModel" "handBelow" "[J") (List.mem_of_getElem? (i := 6) rfl)) (fun _ h9 => h9) e0_40 dX13_hold_105 ?_
              refine lv_iload_n hx hb dX13_hold_108 rfl (lv_at hl 3 rfl) ?_
              refine lv_iload_n hx hb dX13_hold_109 rfl (lv_at hl 4 rfl) ?_
              refine lv_iconst (v := 2) hx hb dX13_hold_110 (by decide) ?_
              refine lv_icmp_ne (tgt := 122) hx hb dX13_hold_111 (by decide) (fun c_24 => ?_) (fun c_24 => ?_)
              · rw [fa_eq] at c_24
                try rw [ti_2] at c_24
                refine lv_lconst (v := 1) hx hb dX13_hold_122 (by decide) ?_
                refine va_last hx hb hE.1 hP hD hS 3 1 rfl rfl (by unfold vp_in; decide) dX13_hold_123 (fun H locs hP hD hS => ?_)
                have hP : va_P D vwCl [(h0, .inr (10, fs0)), (a0, .inl (T 0, 4, .inl (upd f38 3 x2))), (a1, .inl (T 1, 4, .inr (.inl (vp_updL f39 3 (x3 / 1))))), (a2, .inl (T 1, 4, .inr (.inl (vp_updL f40 3 1))))] H := hP
                have hD : va_D A [(h0, .inr (10, fs0)), (a0, .inl (T 0, 4, .inl (upd f38 3 x2))), (a1, .inl (T 1, 4, .inr (.inl (vp_updL f39 3 (x3 / 1))))), (a2, .inl (T 1, 4, .inr (.inl (vp_updL f40 3 1))))] := hD
                refine lv_iload hx hb dX13_hold_124 (lv_at hl 1 rfl) ?_
                exact W.iret hx hb hr (fun t ht hW => ⟨⟨_, (), rfl, (by first | decide | (unfold sp_hold; (repeat' split) <;> first | rfl | (exfalso; omega))), by rw [ht]; exact hP.sub [] rfl, hD.sub [] (by decide) rfl⟩, hS.F ht⟩) hS.2.2 dX13_hold_126
              · rw [fa_eq] at c_24
                try rw [ti_2] at c_24
                refine lv_lload hx hb dX13_hold_114 (lv_at hl 6 rfl) ?_
                refine lv_lload hx hb dX13_hold_116 (lv_at hl 0 rfl) ?_
                refine lv_ldiv hx hb dX13_hold_118 (by decide) ?_
                refine lv_goto (tgt := 123) hx hb dX13_hold_119 (by decide) ?_
                refine va_last hx hb hE.1 hP hD hS 3 1 rfl rfl (by unfold vp_in; decide) dX13_hold_123 (fun H locs hP hD hS => ?_)
                have hP : va_P D vwCl [(h0, .inr (10, fs0)), (a0, .inl (T 0, 4, .inl (upd f38 3 x2))), (a1, .inl (T 1, 4, .inr (.inl (vp_updL f39 3 (x3 / 1))))), (a2, .inl (T 1, 4, .inr (.inl (vp_updL f40 3 (x4 / 1)))))] H := hP
                have hD : va_D A [(h0, .inr (10, fs0)), (a0, .inl (T 0, 4, .inl (upd f38 3 x2))), (a1, .inl (T 1, 4, .inr (.inl (vp_updL f39 3 (x3 / 1))))), (a2, .inl (T 1, 4, .inr (.inl (vp_updL f40 3 (x4 / 1)))))] := hD
                refine lv_iload hx hb dX13_hold_124 (lv_at hl 1 rfl) ?_
                exact W.iret hx hb hr (fun t ht hW => ⟨⟨_, (), rfl, (by first | decide | (unfold sp_hold; (repeat' split) <;> first | rfl | (exfalso; omega))), by rw [ht]; exact hP.sub [] rfl, hD.sub [] (by decide) rfl⟩, hS.F ht⟩) hS.2.2 dX13_hold_126
            · rw [fa_eq] at c_23
              try rw [ti_2] at c_23
              refine lv_lload_n hx hb dX13_hold_75 rfl (lv_at hl 4 rfl) ?_
              refine lv_lload hx hb dX13_hold_76 (lv_at hl 5 rfl) ?_
              refine vp_callSl (W.runS (As := [.long x3, .long x4]) (rest := []) ⟨hx, hb, hml, hown, hts⟩ (c_X13_divisor l D T x3 x4 (by omega)) (va_cwS 2 hts gX13_hold_X13_divisor rfl rfl rfl (by decide +kernel) ⟨Nat.le_of_ble_eq_true rfl, Nat.le_of_ble_eq_true rfl⟩) (pR_S hP hE [] rfl) rfl rfl hl.1 rfl (lv_room (Nat.le_of_ble_eq_true rfl)) dX13_hold_78 ⟨Nat.le_of_ble_eq_true rfl, Nat.le_of_ble_eq_true rfl⟩) (fun r_25 hr_25 => ?_)
              refine lv_goto (tgt := 85) hx hb dX13_hold_81 (by decide) ?_
              refine lv_lstore (lv' := [(8, .long r_25), (7, .int 0), (0, .ref h0), (1, .int 3), (2, .int x2), (3, .long x3), (5, .long x4)]) hx hb dX13_hold_85 hl (by decide) rfl (fun ls hl => ?_)
              refine lv_aload_n hx hb dX13_hold_87 rfl (lv_at hl 2 rfl) ?_
              refine va_get (D := D) (ci := 10) (v := .ref a0) (C := RX13) (T := TX13) (N := 45) hx hb hts in_X13_hold_X13 hown hE.1 hP 0 rfl rfl 38 (by decide) (hts (.fieldLink RX13 117 "ClauseBookModel" "handSort" "[I") (List.mem_of_getElem? (i := 4) rfl)) (fun _ h9 => h9) e0_38 dX13_hold_88 ?_
              refine lv_iload_n hx hb dX13_hold_91 rfl (lv_at hl 3 rfl) ?_
              refine lv_iload_n hx hb dX13_hold_92 rfl (lv_at hl 4 rfl) ?_
              refine va_iast hx hb hE.1 hP hD hS 1 0 rfl rfl (by unfold vp_in; decide) dX13_hold_93 (fun H locs hP hD hS => ?_)
              have hP : va_P D vwCl [(h0, .inr (10, fs0)), (a0, .inl (T 0, 4, .inl (upd f38 3 x2))), (a1, .inl (T 1, 4, .inr (.inl f39))), (a2, .inl (T 1, 4, .inr (.inl f40)))] H := hP
              have hD : va_D A [(h0, .inr (10, fs0)), (a0, .inl (T 0, 4, .inl (upd f38 3 x2))), (a1, .inl (T 1, 4, .inr (.inl f39))), (a2, .inl (T 1, 4, .inr (.inl f40)))] := hD
              refine lv_aload_n hx hb dX13_hold_94 rfl (lv_at hl 2 rfl) ?_
              refine va_get (D := D) (ci := 10) (v := .ref a1) (C := RX13) (T := TX13) (N := 45) hx hb hts in_X13_hold_X13 hown hE.1 hP 0 rfl rfl 39 (by decide) (hts (.fieldLink RX13 120 "ClauseBookModel" "handAbove" "[J") (List.mem_of_getElem? (i := 5) rfl)) (fun _ h9 => h9) e0_39 dX13_hold_95 ?_
              refine lv_iload_n hx hb dX13_hold_98 rfl (lv_at hl 3 rfl) ?_
              refine lv_lload_n hx hb dX13_hold_99 rfl (lv_at hl 5 rfl) ?_
              refine lv_lload hx hb dX13_hold_100 (lv_at hl 0 rfl) ?_
              refine lv_ldiv hx hb dX13_hold_102 (nz64 (by omega)) ?_
              refine va_last hx hb hE.1 hP hD hS 2 1 rfl rfl (by unfold vp_in; decide) dX13_hold_103 (fun H locs hP hD hS => ?_)
              have hP : va_P D vwCl [(h0, .inr (10, fs0)), (a0, .inl (T 0, 4, .inl (upd f38 3 x2))), (a1, .inl (T 1, 4, .inr (.inl (vp_updL f39 3 (x3 / r_25))))), (a2, .inl (T 1, 4, .inr (.inl f40)))] H := hP
              have hD : va_D A [(h0, .inr (10, fs0)), (a0, .inl (T 0, 4, .inl (upd f38 3 x2))), (a1, .inl (T 1, 4, .inr (.inl (vp_updL f39 3 (x3 / r_25))))), (a2, .inl (T 1, 4, .inr (.inl f40)))] := hD
              refine lv_aload_n hx hb dX13_hold_104 rfl (lv_at hl 2 rfl) ?_
              refine va_get (D := D) (ci := 10) (v := .ref a2) (C := RX13) (T := TX13) (N := 45) hx hb hts in_X13_hold_X13 hown hE.1 hP 0 rfl rfl 40 (by decide) (hts (.fieldLink RX13 123 "ClauseBookModel" "handBelow" "[J") (List.mem_of_getElem? (i := 6) rfl)) (fun _ h9 => h9) e0_40 dX13_hold_105 ?_
              refine lv_iload_n hx hb dX13_hold_108 rfl (lv_at hl 3 rfl) ?_
              refine lv_iload_n hx hb dX13_hold_109 rfl (lv_at hl 4 rfl) ?_
              refine lv_iconst (v := 2) hx hb dX13_hold_110 (by decide) ?_
              refine lv_icmp_ne (tgt := 122) hx hb dX13_hold_111 (by decide) (fun c_26 => ?_) (fun c_26 => ?_)
              · rw [fa_eq] at c_26
                try rw [ti_2] at c_26
                refine lv_lconst (v := 1) hx hb dX13_hold_122 (by decide) ?_
                refine va_last hx hb hE.1 hP hD hS 3 1 rfl rfl (by unfold vp_in; decide) dX13_hold_123 (fun H locs hP hD hS => ?_)
                have hP : va_P D vwCl [(h0, .inr (10, fs0)), (a0, .inl (T 0, 4, .inl (upd f38 3 x2))), (a1, .inl (T 1, 4, .inr (.inl (vp_updL f39 3 (x3 / r_25))))), (a2, .inl (T 1, 4, .inr (.inl (vp_updL f40 3 1))))] H := hP
                have hD : va_D A [(h0, .inr (10, fs0)), (a0, .inl (T 0, 4, .inl (upd f38 3 x2))), (a1, .inl (T 1, 4, .inr (.inl (vp_updL f39 3 (x3 / r_25))))), (a2, .inl (T 1, 4, .inr (.inl (vp_updL f40 3 1))))] := hD
                refine lv_iload hx hb dX13_hold_124 (lv_at hl 1 rfl) ?_
                exact W.iret hx hb hr (fun t ht hW => ⟨⟨_, (), rfl, (by first | decide | (unfold sp_hold; (repeat' split) <;> first | rfl | (exfalso; omega))), by rw [ht]; exact hP.sub [] rfl, hD.sub [] (by decide) rfl⟩, hS.F ht⟩) hS.2.2 dX13_hold_126
              · rw [fa_eq] at c_26
                try rw [ti_2] at c_26
                refine lv_lload hx hb dX13_hold_114 (lv_at hl 6 rfl) ?_
                refine lv_lload hx hb dX13_hold_116 (lv_at hl 0 rfl) ?_
                refine lv_ldiv hx hb dX13_hold_118 (nz64 (by omega)) ?_
                refine lv_goto (tgt := 123) hx hb dX13_hold_119 (by decide) ?_
                refine va_last hx hb hE.1 hP hD hS 3 1 rfl rfl (by unfold vp_in; decide) dX13_hold_123 (fun H locs hP hD hS => ?_)
                have hP : va_P D vwCl [(h0, .inr (10, fs0)), (a0, .inl (T 0, 4, .inl (upd f38 3 x2))), (a1, .inl (T 1, 4, .inr (.inl (vp_updL f39 3 (x3 / r_25))))), (a2, .inl (T 1, 4, .inr (.inl (vp_updL f40 3 (x4 / r_25)))))] H := hP
                have hD : va_D A [(h0, .inr (10, fs0)), (a0, .inl (T 0, 4, .inl (upd f38 3 x2))), (a1, .inl (T 1, 4, .inr (.inl (vp_updL f39 3 (x3 / r_25))))), (a2, .inl (T 1, 4, .inr (.inl (vp_updL f40 3 (x4 / r_25)))))] := hD
                refine lv_iload hx hb dX13_hold_124 (lv_at hl 1 rfl) ?_
                exact W.iret hx hb hr (fun t ht hW => ⟨⟨_, (), rfl, (by first | decide | (unfold sp_hold; (repeat' split) <;> first | rfl | (exfalso; omega))), by rw [ht]; exact hP.sub [] rfl, hD.sub [] (by decide) rfl⟩, hS.F ht⟩) hS.2.2 dX13_hold_126
        · rw [fa_eq] at c_6
          try rw [ti_2] at c_6
          refine lv_lload hx hb dX13_hold_44 (lv_at hl 4 rfl) ?_
          refine lv_lconst (v := 1) hx hb dX13_hold_46 (by decide) ?_
          refine W.lcmp hx hb dX13_hold_47 ?_
          refine lv_if_lt (tgt := 59) hx hb dX13_hold_48 (by decide) (fun c_27 => ?_) (fun c_27 => ?_)
          · rw [lcmp_lt] at c_27
            try rw [tl_1] at c_27
            refine lv_bipush (v := (-2)) hx hb dX13_hold_59 (by decide) ?_
            exact W.iret hx hb hr (fun t ht hW => ⟨⟨_, (), rfl, (by first | decide | (unfold sp_hold; (repeat' split) <;> first | rfl | (exfalso; omega))), by rw [ht]; exact hP.sub [] rfl, hD.sub [] (by decide) rfl⟩, hS.F ht⟩) hS.2.2 dX13_hold_61
          · rw [lcmp_lt] at c_27
            try rw [tl_1] at c_27
            refine lv_lload_n hx hb dX13_hold_51 rfl (lv_at hl 3 rfl) ?_
            refine lv_ldc2 (v := (-9223372036854775808)) hx hb hown (hts (.constantLong RX13 139 (-9223372036854775808)) (List.mem_of_getElem? (i := 3) rfl)) dX13_hold_52 ?_
            refine W.lcmp hx hb dX13_hold_55 ?_
            refine lv_if_ne (tgt := 62) hx hb dX13_hold_56 (by decide) (fun c_28 => ?_) (fun c_28 => ?_)
            · rw [lcmp_eq] at c_28
              try rw [tl_min] at c_28
              refine lv_aload_n hx hb dX13_hold_62 rfl (lv_at hl 0 rfl) ?_
              refine va_get (D := D) (ci := 10) (v := .ref a0) (C := RX13) (T := TX13) (N := 45) hx hb hts in_X13_hold_X13 hown hE.1 hP 0 rfl rfl 38 (by decide) (hts (.fieldLink RX13 117 "ClauseBookModel" "handSort" "[I") (List.mem_of_getElem? (i := 4) rfl)) (fun _ h9 => h9) e0_38 dX13_hold_63 ?_
              refine lv_iload_n hx hb dX13_hold_66 rfl (lv_at hl 1 rfl) ?_
              rcases in4 (x := x1) (by omega) with rfl | rfl | rfl | rfl
              · refine va_iald hx hb hE.1 hP 1 0 rfl rfl (by unfold vp_in; decide) dX13_hold_67 ?_
                refine lv_topi (fun z_29 ez_29 => ?_)
                obtain rfl : z_29 = 0 := ez_29.trans ef38_0
                refine lv_istore (lv' := [(7, .int 0), (0, .ref h0), (1, .int 0), (2, .int x2), (3, .long x3), (5, .long x4)]) hx hb dX13_hold_68 hl (by decide) rfl (fun ls hl => ?_)
                refine lv_iload_n hx hb dX13_hold_70 rfl (lv_at hl 3 rfl) ?_
                refine lv_iconst (v := 2) hx hb dX13_hold_71 (by decide) ?_
                refine lv_icmp_ne (tgt := 84) hx hb dX13_hold_72 (by decide) (fun c_30 => ?_) (fun c_30 => ?_)
                · rw [fa_eq] at c_30
                  try rw [ti_2] at c_30
                  refine lv_lconst (v := 1) hx hb dX13_hold_84 (by decide) ?_
                  refine lv_lstore (lv' := [(8, .long 1), (7, .int 0), (0, .ref h0), (1, .int 0), (2, .int x2), (3, .long x3), (5, .long x4)]) hx hb dX13_hold_85 hl (by decide) rfl (fun ls hl => ?_)
                  refine lv_aload_n hx hb dX13_hold_87 rfl (lv_at hl 2 rfl) ?_
                  refine va_get (D := D) (ci := 10) (v := .ref a0) (C := RX13) (T := TX13) (N := 45) hx hb hts in_X13_hold_X13 hown hE.1 hP 0 rfl rfl 38 (by decide) (hts (.fieldLink RX13 117 "ClauseBookModel" "handSort" "[I") (List.mem_of_getElem? (i := 4) rfl)) (fun _ h9 => h9) e0_38 dX13_hold_88 ?_
                  refine lv_iload_n hx hb dX13_hold_91 rfl (lv_at hl 3 rfl) ?_
                  refine lv_iload_n hx hb dX13_hold_92 rfl (lv_at hl 4 rfl) ?_
                  refine va_iast hx hb hE.1 hP hD hS 1 0 rfl rfl (by unfold vp_in; decide) dX13_hold_93 (fun H locs hP hD hS => ?_)
                  have hP : va_P D vwCl [(h0, .inr (10, fs0)), (a0, .inl (T 0, 4, .inl (upd f38 0 x2))), (a1, .inl (T 1, 4, .inr (.inl f39))), (a2, .inl (T 1, 4, .inr (.inl f40)))] H := hP
                  have hD : va_D A [(h0, .inr (10, fs0)), (a0, .inl (T 0, 4, .inl (upd f38 0 x2))), (a1, .inl (T 1, 4, .inr (.inl f39))), (a2, .inl (T 1, 4, .inr (.inl f40)))] := hD
                  refine lv_aload_n hx hb dX13_hold_94 rfl (lv_at hl 2 rfl) ?_
                  refine va_get (D := D) (ci := 10) (v := .ref a1) (C := RX13) (T := TX13) (N := 45) hx hb hts in_X13_hold_X13 hown hE.1 hP 0 rfl rfl 39 (by decide) (hts (.fieldLink RX13 120 "ClauseBookModel" "handAbove" "[J") (List.mem_of_getElem? (i := 5) rfl)) (fun _ h9 => h9) e0_39 dX13_hold_95 ?_
                  refine lv_iload_n hx hb dX13_hold_98 rfl (lv_at hl 3 rfl) ?_
                  refine lv_lload_n hx hb dX13_hold_99 rfl (lv_at hl 5 rfl) ?_
                  refine lv_lload hx hb dX13_hold_100 (lv_at hl 0 rfl) ?_
                  refine lv_ldiv hx hb dX13_hold_102 (by decide) ?_
                  refine va_last hx hb hE.1 hP hD hS 2 1 rfl rfl (by unfold vp_in; decide) dX13_hold_103 (fun H locs hP hD hS => ?_)
                  have hP : va_P D vwCl [(h0, .inr (10, fs0)), (a0, .inl (T 0, 4, .inl (upd f38 0 x2))), (a1, .inl (T 1, 4, .inr (.inl (vp_updL f39 0 (x3 / 1))))), (a2, .inl (T 1, 4, .inr (.inl f40)))] H := hP
                  have hD : va_D A [(h0, .inr (10, fs0)), (a0, .inl (T 0, 4, .inl (upd f38 0 x2))), (a1, .inl (T 1, 4, .inr (.inl (vp_updL f39 0 (x3 / 1))))), (a2, .inl (T 1, 4, .inr (.inl f40)))] := hD
                  refine lv_aload_n hx hb dX13_hold_104 rfl (lv_at hl 2 rfl) ?_
                  refine va_get (D := D) (ci := 10) (v := .ref a2) (C := RX13) (T := TX13) (N := 45) hx hb hts in_X13_hold_X13 hown hE.1 hP 0 rfl rfl 40 (by decide) (hts (.fieldLink RX13 123 "ClauseBookModel" "handBelow" "[J") (List.mem_of_getElem? (i := 6) rfl)) (fun _ h9 => h9) e0_40 dX13_hold_105 ?_
                  refine lv_iload_n hx hb dX13_hold_108 rfl (lv_at hl 3 rfl) ?_
                  refine lv_iload_n hx hb dX13_hold_109 rfl (lv_at hl 4 rfl) ?_
                  refine lv_iconst (v := 2) hx hb dX13_hold_110 (by decide) ?_
                  refine lv_icmp_ne (tgt := 122) hx hb dX13_hold_111 (by decide) (fun c_31 => ?_) (fun c_31 => ?_)
                  · rw [fa_eq] at c_31
                    try rw [ti_2] at c_31
                    refine lv_lconst (v := 1) hx hb dX13_hold_122 (by decide) ?_
                    refine va_last hx hb hE.1 hP hD hS 3 1 rfl rfl (by unfold vp_in; decide) dX13_hold_123 (fun H locs hP hD hS => ?_)
                    have hP : va_P D vwCl [(h0, .inr (10, fs0)), (a0, .inl (T 0, 4, .inl (upd f38 0 x2))), (a1, .inl (T 1, 4, .inr (.inl (vp_updL f39 0 (x3 / 1))))), (a2, .inl (T 1, 4, .inr (.inl (vp_updL f40 0 1))))] H := hP
                    have hD : va_D A [(h0, .inr (10, fs0)), (a0, .inl (T 0, 4, .inl (upd f38 0 x2))), (a1, .inl (T 1, 4, .inr (.inl (vp_updL f39 0 (x3 / 1))))), (a2, .inl (T 1, 4, .inr (.inl (vp_updL f40 0 1))))] := hD
                    refine lv_iload hx hb dX13_hold_124 (lv_at hl 1 rfl) ?_
                    exact W.iret hx hb hr (fun t ht hW => ⟨⟨_, (), rfl, (by first | decide | (unfold sp_hold; (repeat' split) <;> first | rfl | (exfalso; omega))), by rw [ht]; exact hP.sub [] rfl, hD.sub [] (by decide) rfl⟩, hS.F ht⟩) hS.2.2 dX13_hold_126
                  · rw [fa_eq] at c_31
                    try rw [ti_2] at c_31
                    refine lv_lload hx hb dX13_hold_114 (lv_at hl 6 rfl) ?_
                    refine lv_lload hx hb dX13_hold_116 (lv_at hl 0 rfl) ?_
                    refine lv_ldiv hx hb dX13_hold_118 (by decide) ?_
                    refine lv_goto (tgt := 123) hx hb dX13_hold_119 (by decide) ?_
                    refine va_last hx hb hE.1 hP hD hS 3 1 rfl rfl (by unfold vp_in; decide) dX13_hold_123 (fun H locs hP hD hS => ?_)
                    have hP : va_P D vwCl [(h0, .inr (10, fs0)), (a0, .inl (T 0, 4, .inl (upd f38 0 x2))), (a1, .inl (T 1, 4, .inr (.inl (vp_updL f39 0 (x3 / 1))))), (a2, .inl (T 1, 4, .inr (.inl (vp_updL f40 0 (x4 / 1)))))] H := hP
                    have hD : va_D A [(h0, .inr (10, fs0)), (a0, .inl (T 0, 4, .inl (upd f38 0 x2))), (a1, .inl (T 1, 4, .inr (.inl (vp_updL f39 0 (x3 / 1))))), (a2, .inl (T 1, 4, .inr (.inl (vp_updL f40 0 (x4 / 1)))))] := hD
                    refine lv_iload hx hb dX13_hold_124 (lv_at hl 1 rfl) ?_
                    exact W.iret hx hb hr (fun t ht hW => ⟨⟨_, (), rfl, (by first | decide | (unfold sp_hold; (repeat' split) <;> first | rfl | (exfalso; omega))), by rw [ht]; exact hP.sub [] rfl, hD.sub [] (by decide) rfl⟩, hS.F ht⟩) hS.2.2 dX13_hold_126
                · rw [fa_eq] at c_30
                  try rw [ti_2] at c_30
                  refine lv_lload_n hx hb dX13_hold_75 rfl (lv_at hl 4 rfl) ?_
                  refine lv_lload hx hb dX13_hold_76 (lv_at hl 5 rfl) ?_
                  refine vp_callSl (W.runS (As := [.long x3, .long x4]) (rest := []) ⟨hx, hb, hml, hown, hts⟩ (c_X13_divisor l D T x3 x4 (by omega)) (va_cwS 2 hts gX13_hold_X13_divisor rfl rfl rfl (by decide +kernel) ⟨Nat.le_of_ble_eq_true rfl, Nat.le_of_ble_eq_true rfl⟩) (pR_S hP hE [] rfl) rfl rfl hl.1 rfl (lv_room (Nat.le_of_ble_eq_true rfl)) dX13_hold_78 ⟨Nat.le_of_ble_eq_true rfl, Nat.le_of_ble_eq_true rfl⟩) (fun r_32 hr_32 => ?_)
                  refine lv_goto (tgt := 85) hx hb dX13_hold_81 (by decide) ?_
                  refine lv_lstore (lv' := [(8, .long r_32), (7, .int 0), (0, .ref h0), (1, .int 0), (2, .int x2), (3, .long x3), (5, .long x4)]) hx hb dX13_hold_85 hl (by decide) rfl (fun ls hl => ?_)
                  refine lv_aload_n hx hb dX13_hold_87 rfl (lv_at hl 2 rfl) ?_
                  refine va_get (D := D) (ci := 10) (v := .ref a0) (C := RX13) (T := TX13) (N := 45) hx hb hts in_X13_hold_X13 hown hE.1 hP 0 rfl rfl 38 (by decide) (hts (.fieldLink RX13 117 "ClauseBookModel" "handSort" "[I") (List.mem_of_getElem? (i := 4) rfl)) (fun _ h9 => h9) e0_38 dX13_hold_88 ?_
                  refine lv_iload_n hx hb dX13_hold_91 rfl (lv_at hl 3 rfl) ?_
                  refine lv_iload_n hx hb dX13_hold_92 rfl (lv_at hl 4 rfl) ?_
                  refine va_iast hx hb hE.1 hP hD hS 1 0 rfl rfl (by unfold vp_in; decide) dX13_hold_93 (fun H locs hP hD hS => ?_)
                  have hP : va_P D vwCl [(h0, .inr (10, fs0)), (a0, .inl (T 0, 4, .inl (upd f38 0 x2))), (a1, .inl (T 1, 4, .inr (.inl f39))), (a2, .inl (T 1, 4, .inr (.inl f40)))] H := hP
                  have hD : va_D A [(h0, .inr (10, fs0)), (a0, .inl (T 0, 4, .inl (upd f38 0 x2))), (a1, .inl (T 1, 4, .inr (.inl f39))), (a2, .inl (T 1, 4, .inr (.inl f40)))] := hD
                  refine lv_aload_n hx hb dX13_hold_94 rfl (lv_at hl 2 rfl) ?_
                  refine va_get (D := D) (ci := 10) (v := .ref a1) (C := RX13) (T := TX13) (N := 45) hx hb hts in_X13_hold_X13 hown hE.1 hP 0 rfl rfl 39 (by decide) (hts (.fieldLink RX13 120 "ClauseBookModel" "handAbove" "[J") (List.mem_of_getElem? (i := 5) rfl)) (fun _ h9 => h9) e0_39 dX13_hold_95 ?_
                  refine lv_iload_n hx hb dX13_hold_98 rfl (lv_at hl 3 rfl) ?_
                  refine lv_lload_n hx hb dX13_hold_99 rfl (lv_at hl 5 rfl) ?_
                  refine lv_lload hx hb dX13_hold_100 (lv_at hl 0 rfl) ?_
                  refine lv_ldiv hx hb dX13_hold_102 (nz64 (by omega)) ?_
                  refine va_last hx hb hE.1 hP hD hS 2 1 rfl rfl (by unfold vp_in; decide) dX13_hold_103 (fun H locs hP hD hS => ?_)
                  have hP : va_P D vwCl [(h0, .inr (10, fs0)), (a0, .inl (T 0, 4, .inl (upd f38 0 x2))), (a1, .inl (T 1, 4, .inr (.inl (vp_updL f39 0 (x3 / r_32))))), (a2, .inl (T 1, 4, .inr (.inl f40)))] H := hP
                  have hD : va_D A [(h0, .inr (10, fs0)), (a0, .inl (T 0, 4, .inl (upd f38 0 x2))), (a1, .inl (T 1, 4, .inr (.inl (vp_updL f39 0 (x3 / r_32))))), (a2, .inl (T 1, 4, .inr (.inl f40)))] := hD
                  refine lv_aload_n hx hb dX13_hold_104 rfl (lv_at hl 2 rfl) ?_
                  refine va_get (D := D) (ci := 10) (v := .ref a2) (C := RX13) (T := TX13) (N := 45) hx hb hts in_X13_hold_X13 hown hE.1 hP 0 rfl rfl 40 (by decide) (hts (.fieldLink RX13 123 "ClauseBookModel" "handBelow" "[J") (List.mem_of_getElem? (i := 6) rfl)) (fun _ h9 => h9) e0_40 dX13_hold_105 ?_
                  refine lv_iload_n hx hb dX13_hold_108 rfl (lv_at hl 3 rfl) ?_
                  refine lv_iload_n hx hb dX13_hold_109 rfl (lv_at hl 4 rfl) ?_
                  refine lv_iconst (v := 2) hx hb dX13_hold_110 (by decide) ?_
                  refine lv_icmp_ne (tgt := 122) hx hb dX13_hold_111 (by decide) (fun c_33 => ?_) (fun c_33 => ?_)
                  · rw [fa_eq] at c_33
                    try rw [ti_2] at c_33
                    refine lv_lconst (v := 1) hx hb dX13_hold_122 (by decide) ?_
                    refine va_last hx hb hE.1 hP hD hS 3 1 rfl rfl (by unfold vp_in; decide) dX13_hold_123 (fun H locs hP hD hS => ?_)
                    have hP : va_P D vwCl [(h0, .inr (10, fs0)), (a0, .inl (T 0, 4, .inl (upd f38 0 x2))), (a1, .inl (T 1, 4, .inr (.inl (vp_updL f39 0 (x3 / r_32))))), (a2, .inl (T 1, 4, .inr (.inl (vp_updL f40 0 1))))] H := hP
                    have hD : va_D A [(h0, .inr (10, fs0)), (a0, .inl (T 0, 4, .inl (upd f38 0 x2))), (a1, .inl (T 1, 4, .inr (.inl (vp_updL f39 0 (x3 / r_32))))), (a2, .inl (T 1, 4, .inr (.inl (vp_updL f40 0 1))))] := hD
                    refine lv_iload hx hb dX13_hold_124 (lv_at hl 1 rfl) ?_
                    exact W.iret hx hb hr (fun t ht hW => ⟨⟨_, (), rfl, (by first | decide | (unfold sp_hold; (repeat' split) <;> first | rfl | (exfalso; omega))), by rw [ht]; exact hP.sub [] rfl, hD.sub [] (by decide) rfl⟩, hS.F ht⟩) hS.2.2 dX13_hold_126
                  · rw [fa_eq] at c_33
                    try rw [ti_2] at c_33
                    refine lv_lload hx hb dX13_hold_114 (lv_at hl 6 rfl) ?_
                    refine lv_lload hx hb dX13_hold_116 (lv_at hl 0 rfl) ?_
                    refine lv_ldiv hx hb dX13_hold_118 (nz64 (by omega)) ?_
                    refine lv_goto (tgt := 123) hx hb dX13_hold_119 (by decide) ?_
                    refine va_last hx hb hE.1 hP hD hS 3 1 rfl rfl (by unfold vp_in; decide) dX13_hold_123 (fun H locs hP hD hS => ?_)
                    have hP : va_P D vwCl [(h0, .inr (10, fs0)), (a0, .inl (T 0, 4, .inl (upd f38 0 x2))), (a1, .inl (T 1, 4, .inr (.inl (vp_updL f39 0 (x3 / r_32))))), (a2, .inl (T 1, 4, .inr (.inl (vp_updL f40 0 (x4 / r_32)))))] H := hP
                    have hD : va_D A [(h0, .inr (10, fs0)), (a0, .inl (T 0, 4, .inl (upd f38 0 x2))), (a1, .inl (T 1, 4, .inr (.inl (vp_updL f39 0 (x3 / r_32))))), (a2, .inl (T 1, 4, .inr (.inl (vp_updL f40 0 (x4 / r_32)))))] := hD
                    refine lv_iload hx hb dX13_hold_124 (lv_at hl 1 rfl) ?_
                    exact W.iret hx hb hr (fun t ht hW => ⟨⟨_, (), rfl, (by first | decide | (unfold sp_hold; (repeat' split) <;> first | rfl | (exfalso; omega))), by rw [ht]; exact hP.sub [] rfl, hD.sub [] (by decide) rfl⟩, hS.F ht⟩) hS.2.2 dX13_hold_126
              · refine va_iald hx hb hE.1 hP 1 0 rfl rfl (by unfold vp_in; decide) dX13_hold_67 ?_
                refine lv_topi (fun z_34 ez_34 => ?_)
                obtain rfl : z_34 = 0 := ez_34.trans ef38_1
                refine lv_istore (lv' := [(7, .int 0), (0, .ref h0), (1, .int 1), (2, .int x2), (3, .long x3), (5, .long x4)]) hx hb dX13_hold_68 hl (by decide) rfl (fun ls hl => ?_)
                refine lv_iload_n hx hb dX13_hold_70 rfl (lv_at hl 3 rfl) ?_
                refine lv_iconst (v := 2) hx hb dX13_hold_71 (by decide) ?_
                refine lv_icmp_ne (tgt := 84) hx hb dX13_hold_72 (by decide) (fun c_35 => ?_) (fun c_35 => ?_)
                · rw [fa_eq] at c_35
                  try rw [ti_2] at c_35
                  refine lv_lconst (v := 1) hx hb dX13_hold_84 (by decide) ?_
                  refine lv_lstore (lv' := [(8, .long 1), (7, .int 0), (0, .ref h0), (1, .int 1), (2, .int x2), (3, .long x3), (5, .long x4)]) hx hb dX13_hold_85 hl (by decide) rfl (fun ls hl => ?_)
                  refine lv_aload_n hx hb dX13_hold_87 rfl (lv_at hl 2 rfl) ?_
                  refine va_get (D := D) (ci := 10) (v := .ref a0) (C := RX13) (T := TX13) (N := 45) hx hb hts in_X13_hold_X13 hown hE.1 hP 0 rfl rfl 38 (by decide) (hts (.fieldLink RX13 117 "ClauseBookModel" "handSort" "[I") (List.mem_of_getElem? (i := 4) rfl)) (fun _ h9 => h9) e0_38 dX13_hold_88 ?_
                  refine lv_iload_n hx hb dX13_hold_91 rfl (lv_at hl 3 rfl) ?_
                  refine lv_iload_n hx hb dX13_hold_92 rfl (lv_at hl 4 rfl) ?_
                  refine va_iast hx hb hE.1 hP hD hS 1 0 rfl rfl (by unfold vp_in; decide) dX13_hold_93 (fun H locs hP hD hS => ?_)
                  have hP : va_P D vwCl [(h0, .inr (10, fs0)), (a0, .inl (T 0, 4, .inl (upd f38 1 x2))), (a1, .inl (T 1, 4, .inr (.inl f39))), (a2, .inl (T 1, 4, .inr (.inl f40)))] H := hP
                  have hD : va_D A [(h0, .inr (10, fs0)), (a0, .inl (T 0, 4, .inl (upd f38 1 x2))), (a1, .inl (T 1, 4, .inr (.inl f39))), (a2, .inl (T 1, 4, .inr (.inl f40)))] := hD
                  refine lv_aload_n hx hb dX13_hold_94 rfl (lv_at hl 2 rfl) ?_
                  refine va_get (D := D) (ci := 10) (v := .ref a1) (C := RX13) (T := TX13) (N := 45) hx hb hts in_X13_hold_X13 hown hE.1 hP 0 rfl rfl 39 (by decide) (hts (.fieldLink RX13 120 "ClauseBookModel" "handAbove" "[J") (List.mem_of_getElem? (i := 5) rfl)) (fun _ h9 => h9) e0_39 dX13_hold_95 ?_
                  refine lv_iload_n hx hb dX13_hold_98 rfl (lv_at hl 3 rfl) ?_
                  refine lv_lload_n hx hb dX13_hold_99 rfl (lv_at hl 5 rfl) ?_
                  refine lv_lload hx hb dX13_hold_100 (lv_at hl 0 rfl) ?_
                  refine lv_ldiv hx hb dX13_hold_102 (by decide) ?_
                  refine va_last hx hb hE.1 hP hD hS 2 1 rfl rfl (by unfold vp_in; decide) dX13_hold_103 (fun H locs hP hD hS => ?_)
                  have hP : va_P D vwCl [(h0, .inr (10, fs0)), (a0, .inl (T 0, 4, .inl (upd f38 1 x2))), (a1, .inl (T 1, 4, .inr (.inl (vp_updL f39 1 (x3 / 1))))), (a2, .inl (T 1, 4, .inr (.inl f40)))] H := hP
                  have hD : va_D A [(h0, .inr (10, fs0)), (a0, .inl (T 0, 4, .inl (upd f38 1 x2))), (a1, .inl (T 1, 4, .inr (.inl (vp_updL f39 1 (x3 / 1))))), (a2, .inl (T 1, 4, .inr (.inl f40)))] := hD
                  refine lv_aload_n hx hb dX13_hold_104 rfl (lv_at hl 2 rfl) ?_
                  refine va_get (D := D) (ci := 10) (v := .ref a2) (C := RX13) (T := TX13) (N := 45) hx hb hts in_X13_hold_X13 hown hE.1 hP 0 rfl rfl 40 (by decide) (hts (.fieldLink RX13 123 "ClauseBookModel" "handBelow" "[J") (List.mem_of_getElem? (i := 6) rfl)) (fun _ h9 => h9) e0_40 dX13_hold_105 ?_
                  refine lv_iload_n hx hb dX13_hold_108 rfl (lv_at hl 3 rfl) ?_
                  refine lv_iload_n hx hb dX13_hold_109 rfl (lv_at hl 4 rfl) ?_
                  refine lv_iconst (v := 2) hx hb dX13_hold_110 (by decide) ?_
                  refine lv_icmp_ne (tgt := 122) hx hb dX13_hold_111 (by decide) (fun c_36 => ?_) (fun c_36 => ?_)
                  · rw [fa_eq] at c_36
                    try rw [ti_2] at c_36
                    refine lv_lconst (v := 1) hx hb dX13_hold_122 (by decide) ?_
                    refine va_last hx hb hE.1 hP hD hS 3 1 rfl rfl (by unfold vp_in; decide) dX13_hold_123 (fun H locs hP hD hS => ?_)
                    have hP : va_P D vwCl [(h0, .inr (10, fs0)), (a0, .inl (T 0, 4, .inl (upd f38 1 x2))), (a1, .inl (T 1, 4, .inr (.inl (vp_updL f39 1 (x3 / 1))))), (a2, .inl (T 1, 4, .inr (.inl (vp_updL f40 1 1))))] H := hP
                    have hD : va_D A [(h0, .inr (10, fs0)), (a0, .inl (T 0, 4, .inl (upd f38 1 x2))), (a1, .inl (T 1, 4, .inr (.inl (vp_updL f39 1 (x3 / 1))))), (a2, .inl (T 1, 4, .inr (.inl (vp_updL f40 1 1))))] := hD
                    refine lv_iload hx hb dX13_hold_124 (lv_at hl 1 rfl) ?_
                    exact W.iret hx hb hr (fun t ht hW => ⟨⟨_, (), rfl, (by first | decide | (unfold sp_hold; (repeat' split) <;> first | rfl | (exfalso; omega))), by rw [ht]; exact hP.sub [] rfl, hD.sub [] (by decide) rfl⟩, hS.F ht⟩) hS.2.2 dX13_hold_126
                  · rw [fa_eq] at c_36
                    try rw [ti_2] at c_36
                    refine lv_lload hx hb dX13_hold_114 (lv_at hl 6 rfl) ?_
                    refine lv_lload hx hb dX13_hold_116 (lv_at hl 0 rfl) ?_
                    refine lv_ldiv hx hb dX13_hold_118 (by decide) ?_
                    refine lv_goto (tgt := 123) hx hb dX13_hold_119 (by decide) ?_
                    refine va_last hx hb hE.1 hP hD hS 3 1 rfl rfl (by unfold vp_in; decide) dX13_hold_123 (fun H locs hP hD hS => ?_)
                    have hP : va_P D vwCl [(h0, .inr (10, fs0)), (a0, .inl (T 0, 4, .inl (upd f38 1 x2))), (a1, .inl (T 1, 4, .inr (.inl (vp_updL f39 1 (x3 / 1))))), (a2, .inl (T 1, 4, .inr (.inl (vp_updL f40 1 (x4 / 1)))))] H := hP
                    have hD : va_D A [(h0, .inr (10, fs0)), (a0, .inl (T 0, 4, .inl (upd f38 1 x2))), (a1, .inl (T 1, 4, .inr (.inl (vp_updL f39 1 (x3 / 1))))), (a2, .inl (T 1, 4, .inr (.inl (vp_updL f40 1 (x4 / 1)))))] := hD
                    refine lv_iload hx hb dX13_hold_124 (lv_at hl 1 rfl) ?_
                    exact W.iret hx hb hr (fun t ht hW => ⟨⟨_, (), rfl, (by first | decide | (unfold sp_hold; (repeat' split) <;> first | rfl | (exfalso; omega))), by rw [ht]; exact hP.sub [] rfl, hD.sub [] (by decide) rfl⟩, hS.F ht⟩) hS.2.2 dX13_hold_126
                · rw [fa_eq] at c_35
                  try rw [ti_2] at c_35
                  refine lv_lload_n hx hb dX13_hold_75 rfl (lv_at hl 4 rfl) ?_
                  refine lv_lload hx hb dX13_hold_76 (lv_at hl 5 rfl) ?_
                  refine vp_callSl (W.runS (As := [.long x3, .long x4]) (rest := []) ⟨hx, hb, hml, hown, hts⟩ (c_X13_divisor l D T x3 x4 (by omega)) (va_cwS 2 hts gX13_hold_X13_divisor rfl rfl rfl (by decide +kernel) ⟨Nat.le_of_ble_eq_true rfl, Nat.le_of_ble_eq_true rfl⟩) (pR_S hP hE [] rfl) rfl rfl hl.1 rfl (lv_room (Nat.le_of_ble_eq_true rfl)) dX13_hold_78 ⟨Nat.le_of_ble_eq_true rfl, Nat.le_of_ble_eq_true rfl⟩) (fun r_37 hr_37 => ?_)
                  refine lv_goto (tgt := 85) hx hb dX13_hold_81 (by decide) ?_
                  refine lv_lstore (lv' := [(8, .long r_37), (7, .int 0), (0, .ref h0), (1, .int 1), (2, .int x2), (3, .long x3), (5, .long x4)]) hx hb dX13_hold_85 hl (by decide) rfl (fun ls hl => ?_)
                  refine lv_aload_n hx hb dX13_hold_87 rfl (lv_at hl 2 rfl) ?_
                  refine va_get (D := D) (ci := 10) (v := .ref a0) (C := RX13) (T := TX13) (N := 45) hx hb hts in_X13_hold_X13 hown hE.1 hP 0 rfl rfl 38 (by decide) (hts (.fieldLink RX13 117 "ClauseBookModel" "handSort" "[I") (List.mem_of_getElem? (i := 4) rfl)) (fun _ h9 => h9) e0_38 dX13_hold_88 ?_
                  refine lv_iload_n hx hb dX13_hold_91 rfl (lv_at hl 3 rfl) ?_
                  refine lv_iload_n hx hb dX13_hold_92 rfl (lv_at hl 4 rfl) ?_
                  refine va_iast hx hb hE.1 hP hD hS 1 0 rfl rfl (by unfold vp_in; decide) dX13_hold_93 (fun H locs hP hD hS => ?_)
                  have hP : va_P D vwCl [(h0, .inr (10, fs0)), (a0, .inl (T 0, 4, .inl (upd f38 1 x2))), (a1, .inl (T 1, 4, .inr (.inl f39))), (a2, .inl (T 1, 4, .inr (.inl f40)))] H := hP
                  have hD : va_D A [(h0, .inr (10, fs0)), (a0, .inl (T 0, 4, .inl (upd f38 1 x2))), (a1, .inl (T 1, 4, .inr (.inl f39))), (a2, .inl (T 1, 4, .inr (.inl f40)))] := hD
                  refine lv_aload_n hx hb dX13_hold_94 rfl (lv_at hl 2 rfl) ?_
                  refine va_get (D := D) (ci := 10) (v := .ref a1) (C := RX13) (T := TX13) (N := 45) hx hb hts in_X13_hold_X13 hown hE.1 hP 0 rfl rfl 39 (by decide) (hts (.fieldLink RX13 120 "ClauseBookModel" "handAbove" "[J") (List.mem_of_getElem? (i := 5) rfl)) (fun _ h9 => h9) e0_39 dX13_hold_95 ?_
                  refine lv_iload_n hx hb dX13_hold_98 rfl (lv_at hl 3 rfl) ?_
                  refine lv_lload_n hx hb dX13_hold_99 rfl (lv_at hl 5 rfl) ?_
                  refine lv_lload hx hb dX13_hold_100 (lv_at hl 0 rfl) ?_
                  refine lv_ldiv hx hb dX13_hold_102 (nz64 (by omega)) ?_
                  refine va_last hx hb hE.1 hP hD hS 2 1 rfl rfl (by unfold vp_in; decide) dX13_hold_103 (fun H locs hP hD hS => ?_)
                  have hP : va_P D vwCl [(h0, .inr (10, fs0)), (a0, .inl (T 0, 4, .inl (upd f38 1 x2))), (a1, .inl (T 1, 4, .inr (.inl (vp_updL f39 1 (x3 / r_37))))), (a2, .inl (T 1, 4, .inr (.inl f40)))] H := hP
                  have hD : va_D A [(h0, .inr (10, fs0)), (a0, .inl (T 0, 4, .inl (upd f38 1 x2))), (a1, .inl (T 1, 4, .inr (.inl (vp_updL f39 1 (x3 / r_37))))), (a2, .inl (T 1, 4, .inr (.inl f40)))] := hD
                  refine lv_aload_n hx hb dX13_hold_104 rfl (lv_at hl 2 rfl) ?_
                  refine va_get (D := D) (ci := 10) (v := .ref a2) (C := RX13) (T := TX13) (N := 45) hx hb hts in_X13_hold_X13 hown hE.1 hP 0 rfl rfl 40 (by decide) (hts (.fieldLink RX13 123 "ClauseBookModel" "handBelow" "[J") (List.mem_of_getElem? (i := 6) rfl)) (fun _ h9 => h9) e0_40 dX13_hold_105 ?_
                  refine lv_iload_n hx hb dX13_hold_108 rfl (lv_at hl 3 rfl) ?_
                  refine lv_iload_n hx hb dX13_hold_109 rfl (lv_at hl 4 rfl) ?_
                  refine lv_iconst (v := 2) hx hb dX13_hold_110 (by decide) ?_
                  refine lv_icmp_ne (tgt := 122) hx hb dX13_hold_111 (by decide) (fun c_38 => ?_) (fun c_38 => ?_)
                  · rw [fa_eq] at c_38
                    try rw [ti_2] at c_38
                    refine lv_lconst (v := 1) hx hb dX13_hold_122 (by decide) ?_
                    refine va_last hx hb hE.1 hP hD hS 3 1 rfl rfl (by unfold vp_in; decide) dX13_hold_123 (fun H locs hP hD hS => ?_)
                    have hP : va_P D vwCl [(h0, .inr (10, fs0)), (a0, .inl (T 0, 4, .inl (upd f38 1 x2))), (a1, .inl (T 1, 4, .inr (.inl (vp_updL f39 1 (x3 / r_37))))), (a2, .inl (T 1, 4, .inr (.inl (vp_updL f40 1 1))))] H := hP
                    have hD : va_D A [(h0, .inr (10, fs0)), (a0, .inl (T 0, 4, .inl (upd f38 1 x2))), (a1, .inl (T 1, 4, .inr (.inl (vp_updL f39 1 (x3 / r_37))))), (a2, .inl (T 1, 4, .inr (.inl (vp_updL f40 1 1))))] := hD
                    refine lv_iload hx hb dX13_hold_124 (lv_at hl 1 rfl) ?_
                    exact W.iret hx hb hr (fun t ht hW => ⟨⟨_, (), rfl, (by first | decide | (unfold sp_hold; (repeat' split) <;> first | rfl | (exfalso; omega))), by rw [ht]; exact hP.sub [] rfl, hD.sub [] (by decide) rfl⟩, hS.F ht⟩) hS.2.2 dX13_hold_126
                  · rw [fa_eq] at c_38
                    try rw [ti_2] at c_38
                    refine lv_lload hx hb dX13_hold_114 (lv_at hl 6 rfl) ?_
                    refine lv_lload hx hb dX13_hold_116 (lv_at hl 0 rfl) ?_
                    refine lv_ldiv hx hb dX13_hold_118 (nz64 (by omega)) ?_
                    refine lv_goto (tgt := 123) hx hb dX13_hold_119 (by decide) ?_
                    refine va_last hx hb hE.1 hP hD hS 3 1 rfl rfl (by unfold vp_in; decide) dX13_hold_123 (fun H locs hP hD hS => ?_)
                    have hP : va_P D vwCl [(h0, .inr (10, fs0)), (a0, .inl (T 0, 4, .inl (upd f38 1 x2))), (a1, .inl (T 1, 4, .inr (.inl (vp_updL f39 1 (x3 / r_37))))), (a2, .inl (T 1, 4, .inr (.inl (vp_updL f40 1 (x4 / r_37)))))] H := hP
                    have hD : va_D A [(h0, .inr (10, fs0)), (a0, .inl (T 0, 4, .inl (upd f38 1 x2))), (a1, .inl (T 1, 4, .inr (.inl (vp_updL f39 1 (x3 / r_37))))), (a2, .inl (T 1, 4, .inr (.inl (vp_updL f40 1 (x4 / r_37)))))] := hD
                    refine lv_iload hx hb dX13_hold_124 (lv_at hl 1 rfl) ?_
                    exact W.iret hx hb hr (fun t ht hW => ⟨⟨_, (), rfl, (by first | decide | (unfold sp_hold; (repeat' split) <;> first | rfl | (exfalso; omega))), by rw [ht]; exact hP.sub [] rfl, hD.sub [] (by decide) rfl⟩, hS.F ht⟩) hS.2.2 dX13_hold_126
              · refine va_iald hx hb hE.1 hP 1 0 rfl rfl (by unfold vp_in; decide) dX13_hold_67 ?_
                refine lv_topi (fun z_39 ez_39 => ?_)
                obtain rfl : z_39 = 0 := ez_39.trans ef38_2
                refine lv_istore (lv' := [(7, .int 0), (0, .ref h0), (1, .int 2), (2, .int x2), (3, .long x3), (5, .long x4)]) hx hb dX13_hold_68 hl (by decide) rfl (fun ls hl => ?_)
                refine lv_iload_n hx hb dX13_hold_70 rfl (lv_at hl 3 rfl) ?_
                refine lv_iconst (v := 2) hx hb dX13_hold_71 (by decide) ?_
                refine lv_icmp_ne (tgt := 84) hx hb dX13_hold_72 (by decide) (fun c_40 => ?_) (fun c_40 => ?_)
                · rw [fa_eq] at c_40
                  try rw [ti_2] at c_40
                  refine lv_lconst (v := 1) hx hb dX13_hold_84 (by decide) ?_
                  refine lv_lstore (lv' := [(8, .long 1), (7, .int 0), (0, .ref h0), (1, .int 2), (2, .int x2), (3, .long x3), (5, .long x4)]) hx hb dX13_hold_85 hl (by decide) rfl (fun ls hl => ?_)
                  refine lv_aload_n hx hb dX13_hold_87 rfl (lv_at hl 2 rfl) ?_
                  refine va_get (D := D) (ci := 10) (v := .ref a0) (C := RX13) (T := TX13) (N := 45) hx hb hts in_X13_hold_X13 hown hE.1 hP 0 rfl rfl 38 (by decide) (hts (.fieldLink RX13 117 "ClauseBookModel" "handSort" "[I") (List.mem_of_getElem? (i := 4) rfl)) (fun _ h9 => h9) e0_38 dX13_hold_88 ?_
                  refine lv_iload_n hx hb dX13_hold_91 rfl (lv_at hl 3 rfl) ?_
                  refine lv_iload_n hx hb dX13_hold_92 rfl (lv_at hl 4 rfl) ?_
                  refine va_iast hx hb hE.1 hP hD hS 1 0 rfl rfl (by unfold vp_in; decide) dX13_hold_93 (fun H locs hP hD hS => ?_)
                  have hP : va_P D vwCl [(h0, .inr (10, fs0)), (a0, .inl (T 0, 4, .inl (upd f38 2 x2))), (a1, .inl (T 1, 4, .inr (.inl f39))), (a2, .inl (T 1, 4, .inr (.inl f40)))] H := hP
                  have hD : va_D A [(h0, .inr (10, fs0)), (a0, .inl (T 0, 4, .inl (upd f38 2 x2))), (a1, .inl (T 1, 4, .inr (.inl f39))), (a2, .inl (T 1, 4, .inr (.inl f40)))] := hD
                  refine lv_aload_n hx hb dX13_hold_94 rfl (lv_at hl 2 rfl) ?_
                  refine va_get (D := D) (ci := 10) (v := .ref a1) (C := RX13) (T := TX13) (N := 45) hx hb hts in_X13_hold_X13 hown hE.1 hP 0 rfl rfl 39 (by decide) (hts (.fieldLink RX13 120 "ClauseBookModel" "handAbove" "[J") (List.mem_of_getElem? (i := 5) rfl)) (fun _ h9 => h9) e0_39 dX13_hold_95 ?_
                  refine lv_iload_n hx hb dX13_hold_98 rfl (lv_at hl 3 rfl) ?_
                  refine lv_lload_n hx hb dX13_hold_99 rfl (lv_at hl 5 rfl) ?_
                  refine lv_lload hx hb dX13_hold_100 (lv_at hl 0 rfl) ?_
                  refine lv_ldiv hx hb dX13_hold_102 (by decide) ?_
                  refine va_last hx hb hE.1 hP hD hS 2 1 rfl rfl (by unfold vp_in; decide) dX13_hold_103 (fun H locs hP hD hS => ?_)
                  have hP : va_P D vwCl [(h0, .inr (10, fs0)), (a0, .inl (T 0, 4, .inl (upd f38 2 x2))), (a1, .inl (T 1, 4, .inr (.inl (vp_updL f39 2 (x3 / 1))))), (a2, .inl (T 1, 4, .inr (.inl f40)))] H := hP
                  have hD : va_D A [(h0, .inr (10, fs0)), (a0, .inl (T 0, 4, .inl (upd f38 2 x2))), (a1, .inl (T 1, 4, .inr (.inl (vp_updL f39 2 (x3 / 1))))), (a2, .inl (T 1, 4, .inr (.inl f40)))] := hD
                  refine lv_aload_n hx hb dX13_hold_104 rfl (lv_at hl 2 rfl) ?_
                  refine va_get (D := D) (ci := 10) (v := .ref a2) (C := RX13) (T := TX13) (N := 45) hx hb hts in_X13_hold_X13 hown hE.1 hP 0 rfl rfl 40 (by decide) (hts (.fieldLink RX13 123 "ClauseBookModel" "handBelow" "[J") (List.mem_of_getElem? (i := 6) rfl)) (fun _ h9 => h9) e0_40 dX13_hold_105 ?_
                  refine lv_iload_n hx hb dX13_hold_108 rfl (lv_at hl 3 rfl) ?_
                  refine lv_iload_n hx hb dX13_hold_109 rfl (lv_at hl 4 rfl) ?_
                  refine lv_iconst (v := 2) hx hb dX13_hold_110 (by decide) ?_
                  refine lv_icmp_ne (tgt := 122) hx hb dX13_hold_111 (by decide) (fun c_41 => ?_) (fun c_41 => ?_)
                  · rw [fa_eq] at c_41
                    try rw [ti_2] at c_41
                    refine lv_lconst (v := 1) hx hb dX13_hold_122 (by decide) ?_
                    refine va_last hx hb hE.1 hP hD hS 3 1 rfl rfl (by unfold vp_in; decide) dX13_hold_123 (fun H locs hP hD hS => ?_)
                    have hP : va_P D vwCl [(h0, .inr (10, fs0)), (a0, .inl (T 0, 4, .inl (upd f38 2 x2))), (a1, .inl (T 1, 4, .inr (.inl (vp_updL f39 2 (x3 / 1))))), (a2, .inl (T 1, 4, .inr (.inl (vp_updL f40 2 1))))] H := hP
                    have hD : va_D A [(h0, .inr (10, fs0)), (a0, .inl (T 0, 4, .inl (upd f38 2 x2))), (a1, .inl (T 1, 4, .inr (.inl (vp_updL f39 2 (x3 / 1))))), (a2, .inl (T 1, 4, .inr (.inl (vp_updL f40 2 1))))] := hD
                    refine lv_iload hx hb dX13_hold_124 (lv_at hl 1 rfl) ?_
                    exact W.iret hx hb hr (fun t ht hW => ⟨⟨_, (), rfl, (by first | decide | (unfold sp_hold; (repeat' split) <;> first | rfl | (exfalso; omega))), by rw [ht]; exact hP.sub [] rfl, hD.sub [] (by decide) rfl⟩, hS.F ht⟩) hS.2.2 dX13_hold_126
                  · rw [fa_eq] at c_41
                    try rw [ti_2] at c_41
                    refine lv_lload hx hb dX13_hold_114 (lv_at hl 6 rfl) ?_
                    refine lv_lload hx hb dX13_hold_116 (lv_at hl 0 rfl) ?_
                    refine lv_ldiv hx hb dX13_hold_118 (by decide) ?_
                    refine lv_goto (tgt := 123) hx hb dX13_hold_119 (by decide) ?_
                    refine va_last hx hb hE.1 hP hD hS 3 1 rfl rfl (by unfold vp_in; decide) dX13_hold_123 (fun H locs hP hD hS => ?_)
                    have hP : va_P D vwCl [(h0, .inr (10, fs0)), (a0, .inl (T 0, 4, .inl (upd f38 2 x2))), (a1, .inl (T 1, 4, .inr (.inl (vp_updL f39 2 (x3 / 1))))), (a2, .inl (T 1, 4, .inr (.inl (vp_updL f40 2 (x4 / 1)))))] H := hP
                    have hD : va_D A [(h0, .inr (10, fs0)), (a0, .inl (T 0, 4, .inl (upd f38 2 x2))), (a1, .inl (T 1, 4, .inr (.inl (vp_updL f39 2 (x3 / 1))))), (a2, .inl (T 1, 4, .inr (.inl (vp_updL f40 2 (x4 / 1)))))] := hD
                    refine lv_iload hx hb dX13_hold_124 (lv_at hl 1 rfl) ?_
                    exact W.iret hx hb hr (fun t ht hW => ⟨⟨_, (), rfl, (by first | decide | (unfold sp_hold; (repeat' split) <;> first | rfl | (exfalso; omega))), by rw [ht]; exact hP.sub [] rfl, hD.sub [] (by decide) rfl⟩, hS.F ht⟩) hS.2.2 dX13_hold_126
                · rw [fa_eq] at c_40
                  try rw [ti_2] at c_40
                  refine lv_lload_n hx hb dX13_hold_75 rfl (lv_at hl 4 rfl) ?_
                  refine lv_lload hx hb dX13_hold_76 (lv_at hl 5 rfl) ?_
                  refine vp_callSl (W.runS (As := [.long x3, .long x4]) (rest := []) ⟨hx, hb, hml, hown, hts⟩ (c_X13_divisor l D T x3 x4 (by omega)) (va_cwS 2 hts gX13_hold_X13_divisor rfl rfl rfl (by decide +kernel) ⟨Nat.le_of_ble_eq_true rfl, Nat.le_of_ble_eq_true rfl⟩) (pR_S hP hE [] rfl) rfl rfl hl.1 rfl (lv_room (Nat.le_of_ble_eq_true rfl)) dX13_hold_78 ⟨Nat.le_of_ble_eq_true rfl, Nat.le_of_ble_eq_true rfl⟩) (fun r_42 hr_42 => ?_)
                  refine lv_goto (tgt := 85) hx hb dX13_hold_81 (by decide) ?_
                  refine lv_lstore (lv' := [(8, .long r_42), (7, .int 0), (0, .ref h0), (1, .int 2), (2, .int x2), (3, .long x3), (5, .long x4)]) hx hb dX13_hold_85 hl (by decide) rfl (fun ls hl => ?_)
                  refine lv_aload_n hx hb dX13_hold_87 rfl (lv_at hl 2 rfl) ?_
                  refine va_get (D := D) (ci := 10) (v := .ref a0) (C := RX13) (T := TX13) (N := 45) hx hb hts in_X13_hold_X13 hown hE.1 hP 0 rfl rfl 38 (by decide) (hts (.fieldLink RX13 117 "ClauseBookModel" "handSort" "[I") (List.mem_of_getElem? (i := 4) rfl)) (fun _ h9 => h9) e0_38 dX13_hold_88 ?_
                  refine lv_iload_n hx hb dX13_hold_91 rfl (lv_at hl 3 rfl) ?_
                  refine lv_iload_n hx hb dX13_hold_92 rfl (lv_at hl 4 rfl) ?_
                  refine va_iast hx hb hE.1 hP hD hS 1 0 rfl rfl (by unfold vp_in; decide) dX13_hold_93 (fun H locs hP hD hS => ?_)
                  have hP : va_P D vwCl [(h0, .inr (10, fs0)), (a0, .inl (T 0, 4, .inl (upd f38 2 x2))), (a1, .inl (T 1, 4, .inr (.inl f39))), (a2, .inl (T 1, 4, .inr (.inl f40)))] H := hP
                  have hD : va_D A [(h0, .inr (10, fs0)), (a0, .inl (T 0, 4, .inl (upd f38 2 x2))), (a1, .inl (T 1, 4, .inr (.inl f39))), (a2, .inl (T 1, 4, .inr (.inl f40)))] := hD
                  refine lv_aload_n hx hb dX13_hold_94 rfl (lv_at hl 2 rfl) ?_
                  refine va_get (D := D) (ci := 10) (v := .ref a1) (C := RX13) (T := TX13) (N := 45) hx hb hts in_X13_hold_X13 hown hE.1 hP 0 rfl rfl 39 (by decide) (hts (.fieldLink RX13 120 "ClauseBookModel" "handAbove" "[J") (List.mem_of_getElem? (i := 5) rfl)) (fun _ h9 => h9) e0_39 dX13_hold_95 ?_
                  refine lv_iload_n hx hb dX13_hold_98 rfl (lv_at hl 3 rfl) ?_
                  refine lv_lload_n hx hb dX13_hold_99 rfl (lv_at hl 5 rfl) ?_
                  refine lv_lload hx hb dX13_hold_100 (lv_at hl 0 rfl) ?_
                  refine lv_ldiv hx hb dX13_hold_102 (nz64 (by omega)) ?_
                  refine va_last hx hb hE.1 hP hD hS 2 1 rfl rfl (by unfold vp_in; decide) dX13_hold_103 (fun H locs hP hD hS => ?_)
                  have hP : va_P D vwCl [(h0, .inr (10, fs0)), (a0, .inl (T 0, 4, .inl (upd f38 2 x2))), (a1, .inl (T 1, 4, .inr (.inl (vp_updL f39 2 (x3 / r_42))))), (a2, .inl (T 1, 4, .inr (.inl f40)))] H := hP
                  have hD : va_D A [(h0, .inr (10, fs0)), (a0, .inl (T 0, 4, .inl (upd f38 2 x2))), (a1, .inl (T 1, 4, .inr (.inl (vp_updL f39 2 (x3 / r_42))))), (a2, .inl (T 1, 4, .inr (.inl f40)))] := hD
                  refine lv_aload_n hx hb dX13_hold_104 rfl (lv_at hl 2 rfl) ?_
                  refine va_get (D := D) (ci := 10) (v := .ref a2) (C := RX13) (T := TX13) (N := 45) hx hb hts in_X13_hold_X13 hown hE.1 hP 0 rfl rfl 40 (by decide) (hts (.fieldLink RX13 123 "ClauseBookModel" "handBelow" "[J") (List.mem_of_getElem? (i := 6) rfl)) (fun _ h9 => h9) e0_40 dX13_hold_105 ?_
                  refine lv_iload_n hx hb dX13_hold_108 rfl (lv_at hl 3 rfl) ?_
                  refine lv_iload_n hx hb dX13_hold_109 rfl (lv_at hl 4 rfl) ?_
                  refine lv_iconst (v := 2) hx hb dX13_hold_110 (by decide) ?_
                  refine lv_icmp_ne (tgt := 122) hx hb dX13_hold_111 (by decide) (fun c_43 => ?_) (fun c_43 => ?_)
                  · rw [fa_eq] at c_43
                    try rw [ti_2] at c_43
                    refine lv_lconst (v := 1) hx hb dX13_hold_122 (by decide) ?_
                    refine va_last hx hb hE.1 hP hD hS 3 1 rfl rfl (by unfold vp_in; decide) dX13_hold_123 (fun H locs hP hD hS => ?_)
                    have hP : va_P D vwCl [(h0, .inr (10, fs0)), (a0, .inl (T 0, 4, .inl (upd f38 2 x2))), (a1, .inl (T 1, 4, .inr (.inl (vp_updL f39 2 (x3 / r_42))))), (a2, .inl (T 1, 4, .inr (.inl (vp_updL f40 2 1))))] H := hP
                    have hD : va_D A [(h0, .inr (10, fs0)), (a0, .inl (T 0, 4, .inl (upd f38 2 x2))), (a1, .inl (T 1, 4, .inr (.inl (vp_updL f39 2 (x3 / r_42))))), (a2, .inl (T 1, 4, .inr (.inl (vp_updL f40 2 1))))] := hD
                    refine lv_iload hx hb dX13_hold_124 (lv_at hl 1 rfl) ?_
                    exact W.iret hx hb hr (fun t ht hW => ⟨⟨_, (), rfl, (by first | decide | (unfold sp_hold; (repeat' split) <;> first | rfl | (exfalso; omega))), by rw [ht]; exact hP.sub [] rfl, hD.sub [] (by decide) rfl⟩, hS.F ht⟩) hS.2.2 dX13_hold_126
                  · rw [fa_eq] at c_43
                    try rw [ti_2] at c_43
                    refine lv_lload hx hb dX13_hold_114 (lv_at hl 6 rfl) ?_
                    refine lv_lload hx hb dX13_hold_116 (lv_at hl 0 rfl) ?_
                    refine lv_ldiv hx hb dX13_hold_118 (nz64 (by omega)) ?_
                    refine lv_goto (tgt := 123) hx hb dX13_hold_119 (by decide) ?_
                    refine va_last hx hb hE.1 hP hD hS 3 1 rfl rfl (by unfold vp_in; decide) dX13_hold_123 (fun H locs hP hD hS => ?_)
                    have hP : va_P D vwCl [(h0, .inr (10, fs0)), (a0, .inl (T 0, 4, .inl (upd f38 2 x2))), (a1, .inl (T 1, 4, .inr (.inl (vp_updL f39 2 (x3 / r_42))))), (a2, .inl (T 1, 4, .inr (.inl (vp_updL f40 2 (x4 / r_42)))))] H := hP
                    have hD : va_D A [(h0, .inr (10, fs0)), (a0, .inl (T 0, 4, .inl (upd f38 2 x2))), (a1, .inl (T 1, 4, .inr (.inl (vp_updL f39 2 (x3 / r_42))))), (a2, .inl (T 1, 4, .inr (.inl (vp_updL f40 2 (x4 / r_42)))))] := hD
                    refine lv_iload hx hb dX13_hold_124 (lv_at hl 1 rfl) ?_
                    exact W.iret hx hb hr (fun t ht hW => ⟨⟨_, (), rfl, (by first | decide | (unfold sp_hold; (repeat' split) <;> first | rfl | (exfalso; omega))), by rw [ht]; exact hP.sub [] rfl, hD.sub [] (by decide) rfl⟩, hS.F ht⟩) hS.2.2 dX13_hold_126
              · refine va_iald hx hb hE.1 hP 1 0 rfl rfl (by unfold vp_in; decide) dX13_hold_67 ?_
                refine lv_topi (fun z_44 ez_44 => ?_)
                obtain rfl : z_44 = 0 := ez_44.trans ef38_3
                refine lv_istore (lv' := [(7, .int 0), (0, .ref h0), (1, .int 3), (2, .int x2), (3, .long x3), (5, .long x4)]) hx hb dX13_hold_68 hl (by decide) rfl (fun ls hl => ?_)
                refine lv_iload_n hx hb dX13_hold_70 rfl (lv_at hl 3 rfl) ?_
                refine lv_iconst (v := 2) hx hb dX13_hold_71 (by decide) ?_
                refine lv_icmp_ne (tgt := 84) hx hb dX13_hold_72 (by decide) (fun c_45 => ?_) (fun c_45 => ?_)
                · rw [fa_eq] at c_45
                  try rw [ti_2] at c_45
                  refine lv_lconst (v := 1) hx hb dX13_hold_84 (by decide) ?_
                  refine lv_lstore (lv' := [(8, .long 1), (7, .int 0), (0, .ref h0), (1, .int 3), (2, .int x2), (3, .long x3), (5, .long x4)]) hx hb dX13_hold_85 hl (by decide) rfl (fun ls hl => ?_)
                  refine lv_aload_n hx hb dX13_hold_87 rfl (lv_at hl 2 rfl) ?_
                  refine va_get (D := D) (ci := 10) (v := .ref a0) (C := RX13) (T := TX13) (N := 45) hx hb hts in_X13_hold_X13 hown hE.1 hP 0 rfl rfl 38 (by decide) (hts (.fieldLink RX13 117 "ClauseBookModel" "handSort" "[I") (List.mem_of_getElem? (i := 4) rfl)) (fun _ h9 => h9) e0_38 dX13_hold_88 ?_
                  refine lv_iload_n hx hb dX13_hold_91 rfl (lv_at hl 3 rfl) ?_
                  refine lv_iload_n hx hb dX13_hold_92 rfl (lv_at hl 4 rfl) ?_
                  refine va_iast hx hb hE.1 hP hD hS 1 0 rfl rfl (by unfold vp_in; decide) dX13_hold_93 (fun H locs hP hD hS => ?_)
                  have hP : va_P D vwCl [(h0, .inr (10, fs0)), (a0, .inl (T 0, 4, .inl (upd f38 3 x2))), (a1, .inl (T 1, 4, .inr (.inl f39))), (a2, .inl (T 1, 4, .inr (.inl f40)))] H := hP
                  have hD : va_D A [(h0, .inr (10, fs0)), (a0, .inl (T 0, 4, .inl (upd f38 3 x2))), (a1, .inl (T 1, 4, .inr (.inl f39))), (a2, .inl (T 1, 4, .inr (.inl f40)))] := hD
                  refine lv_aload_n hx hb dX13_hold_94 rfl (lv_at hl 2 rfl) ?_
                  refine va_get (D := D) (ci := 10) (v := .ref a1) (C := RX13) (T := TX13) (N := 45) hx hb hts in_X13_hold_X13 hown hE.1 hP 0 rfl rfl 39 (by decide) (hts (.fieldLink RX13 120 "ClauseBookModel" "handAbove" "[J") (List.mem_of_getElem? (i := 5) rfl)) (fun _ h9 => h9) e0_39 dX13_hold_95 ?_
                  refine lv_iload_n hx hb dX13_hold_98 rfl (lv_at hl 3 rfl) ?_
                  refine lv_lload_n hx hb dX13_hold_99 rfl (lv_at hl 5 rfl) ?_
                  refine lv_lload hx hb dX13_hold_100 (lv_at hl 0 rfl) ?_
                  refine lv_ldiv hx hb dX13_hold_102 (by decide) ?_
                  refine va_last hx hb hE.1 hP hD hS 2 1 rfl rfl (by unfold vp_in; decide) dX13_hold_103 (fun H locs hP hD hS => ?_)
                  have hP : va_P D vwCl [(h0, .inr (10, fs0)), (a0, .inl (T 0, 4, .inl (upd f38 3 x2))), (a1, .inl (T 1, 4, .inr (.inl (vp_updL f39 3 (x3 / 1))))), (a2, .inl (T 1, 4, .inr (.inl f40)))] H := hP
                  have hD : va_D A [(h0, .inr (10, fs0)), (a0, .inl (T 0, 4, .inl (upd f38 3 x2))), (a1, .inl (T 1, 4, .inr (.inl (vp_updL f39 3 (x3 / 1))))), (a2, .inl (T 1, 4, .inr (.inl f40)))] := hD
                  refine lv_aload_n hx hb dX13_hold_104 rfl (lv_at hl 2 rfl) ?_
                  refine va_get (D := D) (ci := 10) (v := .ref a2) (C := RX13) (T := TX13) (N := 45) hx hb hts in_X13_hold_X13 hown hE.1 hP 0 rfl rfl 40 (by decide) (hts (.fieldLink RX13 123 "ClauseBookModel" "handBelow" "[J") (List.mem_of_getElem? (i := 6) rfl)) (fun _ h9 => h9) e0_40 dX13_hold_105 ?_
                  refine lv_iload_n hx hb dX13_hold_108 rfl (lv_at hl 3 rfl) ?_
                  refine lv_iload_n hx hb dX13_hold_109 rfl (lv_at hl 4 rfl) ?_
                  refine lv_iconst (v := 2) hx hb dX13_hold_110 (by decide) ?_
                  refine lv_icmp_ne (tgt := 122) hx hb dX13_hold_111 (by decide) (fun c_46 => ?_) (fun c_46 => ?_)
                  · rw [fa_eq] at c_46
                    try rw [ti_2] at c_46
                    refine lv_lconst (v := 1) hx hb dX13_hold_122 (by decide) ?_
                    refine va_last hx hb hE.1 hP hD hS 3 1 rfl rfl (by unfold vp_in; decide) dX13_hold_123 (fun H locs hP hD hS => ?_)
                    have hP : va_P D vwCl [(h0, .inr (10, fs0)), (a0, .inl (T 0, 4, .inl (upd f38 3 x2))), (a1, .inl (T 1, 4, .inr (.inl (vp_updL f39 3 (x3 / 1))))), (a2, .inl (T 1, 4, .inr (.inl (vp_updL f40 3 1))))] H := hP
                    have hD : va_D A [(h0, .inr (10, fs0)), (a0, .inl (T 0, 4, .inl (upd f38 3 x2))), (a1, .inl (T 1, 4, .inr (.inl (vp_updL f39 3 (x3 / 1))))), (a2, .inl (T 1, 4, .inr (.inl (vp_updL f40 3 1))))] := hD
                    refine lv_iload hx hb dX13_hold_124 (lv_at hl 1 rfl) ?_
                    exact W.iret hx hb hr (fun t ht hW => ⟨⟨_, (), rfl, (by first | decide | (unfold sp_hold; (repeat' split) <;> first | rfl | (exfalso; omega))), by rw [ht]; exact hP.sub [] rfl, hD.sub [] (by decide) rfl⟩, hS.F ht⟩) hS.2.2 dX13_hold_126
                  · rw [fa_eq] at c_46
                    try rw [ti_2] at c_46
                    refine lv_lload hx hb dX13_hold_114 (lv_at hl 6 rfl) ?_
                    refine lv_lload hx hb dX13_hold_116 (lv_at hl 0 rfl) ?_
                    refine lv_ldiv hx hb dX13_hold_118 (by decide) ?_
                    refine lv_goto (tgt := 123) hx hb dX13_hold_119 (by decide) ?_
                    refine va_last hx hb hE.1 hP hD hS 3 1 rfl rfl (by unfold vp_in; decide) dX13_hold_123 (fun H locs hP hD hS => ?_)
                    have hP : va_P D vwCl [(h0, .inr (10, fs0)), (a0, .inl (T 0, 4, .inl (upd f38 3 x2))), (a1, .inl (T 1, 4, .inr (.inl (vp_updL f39 3 (x3 / 1))))), (a2, .inl (T 1, 4, .inr (.inl (vp_updL f40 3 (x4 / 1)))))] H := hP
                    have hD : va_D A [(h0, .inr (10, fs0)), (a0, .inl (T 0, 4, .inl (upd f38 3 x2))), (a1, .inl (T 1, 4, .inr (.inl (vp_updL f39 3 (x3 / 1))))), (a2, .inl (T 1, 4, .inr (.inl (vp_updL f40 3 (x4 / 1)))))] := hD
                    refine lv_iload hx hb dX13_hold_124 (lv_at hl 1 rfl) ?_
                    exact W.iret hx hb hr (fun t ht hW => ⟨⟨_, (), rfl, (by first | decide | (unfold sp_hold; (repeat' split) <;> first | rfl | (exfalso; omega))), by rw [ht]; exact hP.sub [] rfl, hD.sub [] (by decide) rfl⟩, hS.F ht⟩) hS.2.2 dX13_hold_126
                · rw [fa_eq] at c_45
                  try rw [ti_2] at c_45
                  refine lv_lload_n hx hb dX13_hold_75 rfl (lv_at hl 4 rfl) ?_
                  refine lv_lload hx hb dX13_hold_76 (lv_at hl 5 rfl) ?_
                  refine vp_callSl (W.runS (As := [.long x3, .long x4]) (rest := []) ⟨hx, hb, hml, hown, hts⟩ (c_X13_divisor l D T x3 x4 (by omega)) (va_cwS 2 hts gX13_hold_X13_divisor rfl rfl rfl (by decide +kernel) ⟨Nat.le_of_ble_eq_true rfl, Nat.le_of_ble_eq_true rfl⟩) (pR_S hP hE [] rfl) rfl rfl hl.1 rfl (lv_room (Nat.le_of_ble_eq_true rfl)) dX13_hold_78 ⟨Nat.le_of_ble_eq_true rfl, Nat.le_of_ble_eq_true rfl⟩) (fun r_47 hr_47 => ?_)
                  refine lv_goto (tgt := 85) hx hb dX13_hold_81 (by decide) ?_
                  refine lv_lstore (lv' := [(8, .long r_47), (7, .int 0), (0, .ref h0), (1, .int 3), (2, .int x2), (3, .long x3), (5, .long x4)]) hx hb dX13_hold_85 hl (by decide) rfl (fun ls hl => ?_)
                  refine lv_aload_n hx hb dX13_hold_87 rfl (lv_at hl 2 rfl) ?_
                  refine va_get (D := D) (ci := 10) (v := .ref a0) (C := RX13) (T := TX13) (N := 45) hx hb hts in_X13_hold_X13 hown hE.1 hP 0 rfl rfl 38 (by decide) (hts (.fieldLink RX13 117 "ClauseBookModel" "handSort" "[I") (List.mem_of_getElem? (i := 4) rfl)) (fun _ h9 => h9) e0_38 dX13_hold_88 ?_
                  refine lv_iload_n hx hb dX13_hold_91 rfl (lv_at hl 3 rfl) ?_
                  refine lv_iload_n hx hb dX13_hold_92 rfl (lv_at hl 4 rfl) ?_
                  refine va_iast hx hb hE.1 hP hD hS 1 0 rfl rfl (by unfold vp_in; decide) dX13_hold_93 (fun H locs hP hD hS => ?_)
                  have hP : va_P D vwCl [(h0, .inr (10, fs0)), (a0, .inl (T 0, 4, .inl (upd f38 3 x2))), (a1, .inl (T 1, 4, .inr (.inl f39))), (a2, .inl (T 1, 4, .inr (.inl f40)))] H := hP
                  have hD : va_D A [(h0, .inr (10, fs0)), (a0, .inl (T 0, 4, .inl (upd f38 3 x2))), (a1, .inl (T 1, 4, .inr (.inl f39))), (a2, .inl (T 1, 4, .inr (.inl f40)))] := hD
                  refine lv_aload_n hx hb dX13_hold_94 rfl (lv_at hl 2 rfl) ?_
                  refine va_get (D := D) (ci := 10) (v := .ref a1) (C := RX13) (T := TX13) (N := 45) hx hb hts in_X13_hold_X13 hown hE.1 hP 0 rfl rfl 39 (by decide) (hts (.fieldLink RX13 120 "ClauseBookModel" "handAbove" "[J") (List.mem_of_getElem? (i := 5) rfl)) (fun _ h9 => h9) e0_39 dX13_hold_95 ?_
                  refine lv_iload_n hx hb dX13_hold_98 rfl (lv_at hl 3 rfl) ?_
                  refine lv_lload_n hx hb dX13_hold_99 rfl (lv_at hl 5 rfl) ?_
                  refine lv_lload hx hb dX13_hold_100 (lv_at hl 0 rfl) ?_
                  refine lv_ldiv hx hb dX13_hold_102 (nz64 (by omega)) ?_
                  refine va_last hx hb hE.1 hP hD hS 2 1 rfl rfl (by unfold vp_in; decide) dX13_hold_103 (fun H locs hP hD hS => ?_)
                  have hP : va_P D vwCl [(h0, .inr (10, fs0)), (a0, .inl (T 0, 4, .inl (upd f38 3 x2))), (a1, .inl (T 1, 4, .inr (.inl (vp_updL f39 3 (x3 / r_47))))), (a2, .inl (T 1, 4, .inr (.inl f40)))] H := hP
                  have hD : va_D A [(h0, .inr (10, fs0)), (a0, .inl (T 0, 4, .inl (upd f38 3 x2))), (a1, .inl (T 1, 4, .inr (.inl (vp_updL f39 3 (x3 / r_47))))), (a2, .inl (T 1, 4, .inr (.inl f40)))] := hD
                  refine lv_aload_n hx hb dX13_hold_104 rfl (lv_at hl 2 rfl) ?_
                  refine va_get (D := D) (ci := 10) (v := .ref a2) (C := RX13) (T := TX13) (N := 45) hx hb hts in_X13_hold_X13 hown hE.1 hP 0 rfl rfl 40 (by decide) (hts (.fieldLink RX13 123 "ClauseBookModel" "handBelow" "[J") (List.mem_of_getElem? (i := 6) rfl)) (fun _ h9 => h9) e0_40 dX13_hold_105 ?_
                  refine lv_iload_n hx hb dX13_hold_108 rfl (lv_at hl 3 rfl) ?_
                  refine lv_iload_n hx hb dX13_hold_109 rfl (lv_at hl 4 rfl) ?_
                  refine lv_iconst (v := 2) hx hb dX13_hold_110 (by decide) ?_
                  refine lv_icmp_ne (tgt := 122) hx hb dX13_hold_111 (by decide) (fun c_48 => ?_) (fun c_48 => ?_)
                  · rw [fa_eq] at c_48
                    try rw [ti_2] at c_48
                    refine lv_lconst (v := 1) hx hb dX13_hold_122 (by decide) ?_
                    refine va_last hx hb hE.1 hP hD hS 3 1 rfl rfl (by unfold vp_in; decide) dX13_hold_123 (fun H locs hP hD hS => ?_)
                    have hP : va_P D vwCl [(h0, .inr (10, fs0)), (a0, .inl (T 0, 4, .inl (upd f38 3 x2))), (a1, .inl (T 1, 4, .inr (.inl (vp_updL f39 3 (x3 / r_47))))), (a2, .inl (T 1, 4, .inr (.inl (vp_updL f40 3 1))))] H := hP
                    have hD : va_D A [(h0, .inr (10, fs0)), (a0, .inl (T 0, 4, .inl (upd f38 3 x2))), (a1, .inl (T 1, 4, .inr (.inl (vp_updL f39 3 (x3 / r_47))))), (a2, .inl (T 1, 4, .inr (.inl (vp_updL f40 3 1))))] := hD
                    refine lv_iload hx hb dX13_hold_124 (lv_at hl 1 rfl) ?_
                    exact W.iret hx hb hr (fun t ht hW => ⟨⟨_, (), rfl, (by first | decide | (unfold sp_hold; (repeat' split) <;> first | rfl | (exfalso; omega))), by rw [ht]; exact hP.sub [] rfl, hD.sub [] (by decide) rfl⟩, hS.F ht⟩) hS.2.2 dX13_hold_126
                  · rw [fa_eq] at c_48
                    try rw [ti_2] at c_48
                    refine lv_lload hx hb dX13_hold_114 (lv_at hl 6 rfl) ?_
                    refine lv_lload hx hb dX13_hold_116 (lv_at hl 0 rfl) ?_
                    refine lv_ldiv hx hb dX13_hold_118 (nz64 (by omega)) ?_
                    refine lv_goto (tgt := 123) hx hb dX13_hold_119 (by decide) ?_
                    refine va_last hx hb hE.1 hP hD hS 3 1 rfl rfl (by unfold vp_in; decide) dX13_hold_123 (fun H locs hP hD hS => ?_)
                    have hP : va_P D vwCl [(h0, .inr (10, fs0)), (a0, .inl (T 0, 4, .inl (upd f38 3 x2))), (a1, .inl (T 1, 4, .inr (.inl (vp_updL f39 3 (x3 / r_47))))), (a2, .inl (T 1, 4, .inr (.inl (vp_updL f40 3 (x4 / r_47)))))] H := hP
                    have hD : va_D A [(h0, .inr (10, fs0)), (a0, .inl (T 0, 4, .inl (upd f38 3 x2))), (a1, .inl (T 1, 4, .inr (.inl (vp_updL f39 3 (x3 / r_47))))), (a2, .inl (T 1, 4, .inr (.inl (vp_updL f40 3 (x4 / r_47)))))] := hD
                    refine lv_iload hx hb dX13_hold_124 (lv_at hl 1 rfl) ?_
                    exact W.iret hx hb hr (fun t ht hW => ⟨⟨_, (), rfl, (by first | decide | (unfold sp_hold; (repeat' split) <;> first | rfl | (exfalso; omega))), by rw [ht]; exact hP.sub [] rfl, hD.sub [] (by decide) rfl⟩, hS.F ht⟩) hS.2.2 dX13_hold_126
            · rw [lcmp_eq] at c_28
              try rw [tl_min] at c_28
              refine lv_bipush (v := (-2)) hx hb dX13_hold_59 (by decide) ?_
              exact W.iret hx hb hr (fun t ht hW => ⟨⟨_, (), rfl, (by first | decide | (unfold sp_hold; (repeat' split) <;> first | rfl | (exfalso; omega))), by rw [ht]; exact hP.sub [] rfl, hD.sub [] (by decide) rfl⟩, hS.F ht⟩) hS.2.2 dX13_hold_61
      · rw [fa_eq] at c_5
        try rw [ti_1] at c_5
        refine lv_lload_n hx hb dX13_hold_24 rfl (lv_at hl 3 rfl) ?_
        refine lv_lconst (v := 0) hx hb dX13_hold_25 (by decide) ?_
        refine lv_aload_n hx hb dX13_hold_26 rfl (lv_at hl 0 rfl) ?_
        refine va_get (D := D) (ci := 10) (v := .int 0) (C := RX13) (T := TX13) (N := 45) hx hb hts in_X13_hold_X13 hown hE.1 hP 0 rfl rfl 7 (by decide) (hts (.fieldLink RX13 205 "ClauseBookModel" "many" "I") (List.mem_of_getElem? (i := 2) rfl)) (fun _ h9 => h9) e0_7 dX13_hold_27 ?_
        refine lv_iconst (v := 1) hx hb dX13_hold_30 (by decide) ?_
        refine lv_isub hx hb dX13_hold_31 ?_
        refine lv_topi (fun z_49 ez_49 => ?_)
        obtain rfl : z_49 = (-1) := ez_49.trans (by decide)
        refine lv_i2l (v := (-1)) hx hb dX13_hold_32 (by decide) ?_
        refine vp_callSi (W.runS (As := [.long x3, .long 0, .long (-1)]) (rest := []) ⟨hx, hb, hml, hown, hts⟩ (c_X13_in l D T x3 0 (-1) x3.toInt 0 (-1) rfl (by decide) (by decide)) (va_cwS 3 hts gX13_hold_X13_in rfl rfl rfl (by decide +kernel) ⟨Nat.le_of_ble_eq_true rfl, Nat.le_of_ble_eq_true rfl⟩) (pR_S hP hE [] rfl) rfl rfl hl.1 rfl (lv_room (Nat.le_of_ble_eq_true rfl)) dX13_hold_33 ⟨Nat.le_of_ble_eq_true rfl, Nat.le_of_ble_eq_true rfl⟩) (fun r_50 hr_50 => ?_)
        rcases bool_post hr_50 with ⟨c_51, rfl⟩ | ⟨c_51, rfl⟩
        · exact absurd c_51 (by omega)
        refine lv_if_eq (tgt := 59) hx hb dX13_hold_36 (by decide) (fun _ => ?_) (fun c9 => absurd c9 (by decide))
        refine lv_bipush (v := (-2)) hx hb dX13_hold_59 (by decide) ?_
        exact W.iret hx hb hr (fun t ht hW => ⟨⟨_, (), rfl, (by first | decide | (unfold sp_hold; (repeat' split) <;> first | rfl | (exfalso; omega))), by rw [ht]; exact hP.sub [] rfl, hD.sub [] (by decide) rfl⟩, hS.F ht⟩) hS.2.2 dX13_hold_61
    · refine lv_if_eq (tgt := 59) hx hb dX13_hold_16 (by decide) (fun _ => ?_) (fun c9 => absurd c9 (by decide))
      refine lv_bipush (v := (-2)) hx hb dX13_hold_59 (by decide) ?_
      exact W.iret hx hb hr (fun t ht hW => ⟨⟨_, (), rfl, (by first | decide | (unfold sp_hold; (repeat' split) <;> first | rfl | (exfalso; omega))), by rw [ht]; exact hP.sub [] rfl, hD.sub [] (by decide) rfl⟩, hS.F ht⟩) hS.2.2 dX13_hold_61
  · refine lv_if_eq (tgt := 59) hx hb dX13_hold_4 (by decide) (fun _ => ?_) (fun c9 => absurd c9 (by decide))
    refine lv_bipush (v := (-2)) hx hb dX13_hold_59 (by decide) ?_
    exact W.iret hx hb hr (fun t ht hW => ⟨⟨_, (), rfl, (by first | decide | (unfold sp_hold; (repeat' split) <;> first | rfl | (exfalso; omega))), by rw [ht]; exact hP.sub [] rfl, hD.sub [] (by decide) rfl⟩, hS.F ht⟩) hS.2.2 dX13_hold_61
theorem dX13_sheet_0 : decode cX13_sheet 0 = .ok (.iload_n 1, 1) := by decide +kernel
theorem dX13_sheet_1 : decode cX13_sheet 1 = .ok (.invokestatic 332, 3) := by decide +kernel
theorem dX13_sheet_100 : decode cX13_sheet 100 = .ok (.iadd, 1) := by decide +kernel
theorem dX13_sheet_101 : decode cX13_sheet 101 = .ok (.dconst 0, 1) := by decide +kernel
theorem dX13_sheet_102 : decode cX13_sheet 102 = .ok (.dastore, 1) := by decide +kernel
theorem dX13_sheet_103 : decode cX13_sheet 103 = .ok (.iinc 4 1, 3) := by decide +kernel
theorem dX13_sheet_106 : decode cX13_sheet 106 = .ok (.goto (-36), 3) := by decide +kernel
theorem dX13_sheet_109 : decode cX13_sheet 109 = .ok (.iconst 1, 1) := by decide +kernel
theorem dX13_sheet_110 : decode cX13_sheet 110 = .ok (.ireturn, 1) := by decide +kernel
theorem dX13_sheet_12 : decode cX13_sheet 12 = .ok (.ldc2_w 408, 3) := by decide +kernel
theorem dX13_sheet_15 : decode cX13_sheet 15 = .ok (.invokestatic 175, 3) := by decide +kernel
theorem dX13_sheet_18 : decode cX13_sheet 18 = .ok (.ifCond .eq 13, 3) := by decide +kernel
theorem dX13_sheet_21 : decode cX13_sheet 21 = .ok (.iload_n 2, 1) := by decide +kernel
theorem dX13_sheet_22 : decode cX13_sheet 22 = .ok (.ifCond .lt 12, 3) := by decide +kernel
theorem dX13_sheet_25 : decode cX13_sheet 25 = .ok (.iload_n 3, 1) := by decide +kernel
theorem dX13_sheet_26 : decode cX13_sheet 26 = .ok (.bipush 30, 2) := by decide +kernel
theorem dX13_sheet_28 : decode cX13_sheet 28 = .ok (.if_icmp .le 6, 3) := by decide +kernel
theorem dX13_sheet_31 : decode cX13_sheet 31 = .ok (.bipush (-2), 2) := by decide +kernel
theorem dX13_sheet_33 : decode cX13_sheet 33 = .ok (.ireturn, 1) := by decide +kernel
theorem dX13_sheet_34 : decode cX13_sheet 34 = .ok (.iload_n 2, 1) := by decide +kernel
theorem dX13_sheet_35 : decode cX13_sheet 35 = .ok (.ifCond .lt 10, 3) := by decide +kernel
theorem dX13_sheet_38 : decode cX13_sheet 38 = .ok (.iload_n 3, 1) := by decide +kernel
theorem dX13_sheet_39 : decode cX13_sheet 39 = .ok (.ifCond .ge 6, 3) := by decide +kernel
theorem dX13_sheet_4 : decode cX13_sheet 4 = .ok (.ifCond .eq 27, 3) := by decide +kernel
theorem dX13_sheet_42 : decode cX13_sheet 42 = .ok (.bipush (-14), 2) := by decide +kernel
theorem dX13_sheet_44 : decode cX13_sheet 44 = .ok (.ireturn, 1) := by decide +kernel
theorem dX13_sheet_45 : decode cX13_sheet 45 = .ok (.aload_n 0, 1) := by decide +kernel
theorem dX13_sheet_46 : decode cX13_sheet 46 = .ok (.getfield 104, 3) := by decide +kernel
theorem dX13_sheet_49 : decode cX13_sheet 49 = .ok (.iload_n 1, 1) := by decide +kernel
theorem dX13_sheet_50 : decode cX13_sheet 50 = .ok (.iload_n 2, 1) := by decide +kernel
theorem dX13_sheet_51 : decode cX13_sheet 51 = .ok (.iastore, 1) := by decide +kernel
theorem dX13_sheet_52 : decode cX13_sheet 52 = .ok (.aload_n 0, 1) := by decide +kernel
theorem dX13_sheet_53 : decode cX13_sheet 53 = .ok (.getfield 107, 3) := by decide +kernel
theorem dX13_sheet_56 : decode cX13_sheet 56 = .ok (.iload_n 1, 1) := by decide +kernel
theorem dX13_sheet_57 : decode cX13_sheet 57 = .ok (.iload_n 2, 1) := by decide +kernel
theorem dX13_sheet_58 : decode cX13_sheet 58 = .ok (.ifCond .ge 7, 3) := by decide +kernel
theorem dX13_sheet_61 : decode cX13_sheet 61 = .ok (.iconst 0, 1) := by decide +kernel
theorem dX13_sheet_62 : decode cX13_sheet 62 = .ok (.goto 4, 3) := by decide +kernel
theorem dX13_sheet_65 : decode cX13_sheet 65 = .ok (.iload_n 3, 1) := by decide +kernel
theorem dX13_sheet_66 : decode cX13_sheet 66 = .ok (.iastore, 1) := by decide +kernel
theorem dX13_sheet_67 : decode cX13_sheet 67 = .ok (.iconst 0, 1) := by decide +kernel
theorem dX13_sheet_68 : decode cX13_sheet 68 = .ok (.istore 4, 2) := by decide +kernel
theorem dX13_sheet_7 : decode cX13_sheet 7 = .ok (.iload_n 2, 1) := by decide +kernel
theorem dX13_sheet_70 : decode cX13_sheet 70 = .ok (.iload 4, 2) := by decide +kernel
theorem dX13_sheet_72 : decode cX13_sheet 72 = .ok (.bipush 30, 2) := by decide +kernel
theorem dX13_sheet_74 : decode cX13_sheet 74 = .ok (.if_icmp .ge 35, 3) := by decide +kernel
theorem dX13_sheet_77 : decode cX13_sheet 77 = .ok (.aload_n 0, 1) := by decide +kernel
theorem dX13_sheet_78 : decode cX13_sheet 78 = .ok (.getfield 110, 3) := by decide +kernel
theorem dX13_sheet_8 : decode cX13_sheet 8 = .ok (.i2l, 1) := by decide +kernel
theorem dX13_sheet_81 : decode cX13_sheet 81 = .ok (.bipush 30, 2) := by decide +kernel
theorem dX13_sheet_83 : decode cX13_sheet 83 = .ok (.iload_n 1, 1) := by decide +kernel
theorem dX13_sheet_84 : decode cX13_sheet 84 = .ok (.imul, 1) := by decide +kernel
theorem dX13_sheet_85 : decode cX13_sheet 85 = .ok (.iload 4, 2) := by decide +kernel
theorem dX13_sheet_87 : decode cX13_sheet 87 = .ok (.iadd, 1) := by decide +kernel
theorem dX13_sheet_88 : decode cX13_sheet 88 = .ok (.lconst 0, 1) := by decide +kernel
theorem dX13_sheet_89 : decode cX13_sheet 89 = .ok (.lastore, 1) := by decide +kernel
theorem dX13_sheet_9 : decode cX13_sheet 9 = .ok (.ldc2_w 135, 3) := by decide +kernel
theorem dX13_sheet_90 : decode cX13_sheet 90 = .ok (.aload_n 0, 1) := by decide +kernel
theorem dX13_sheet_91 : decode cX13_sheet 91 = .ok (.getfield 113, 3) := by decide +kernel
theorem dX13_sheet_94 : decode cX13_sheet 94 = .ok (.bipush 30, 2) := by decide +kernel
theorem dX13_sheet_96 : decode cX13_sheet 96 = .ok (.iload_n 1, 1) := by decide +kernel
theorem dX13_sheet_97 : decode cX13_sheet 97 = .ok (.imul, 1) := by decide +kernel
theorem dX13_sheet_98 : decode cX13_sheet 98 = .ok (.iload 4, 2) := by decide +kernel
set_option maxRecDepth 20000 in
theorem ggX13_sheet_X13_in : GoodIn wsX13_sheet wsX13_in := goodIn_r _ [13] (by decide +kernel) (by decide +kernel)
set_option maxRecDepth 20000 in
theorem ggX13_sheet_X13_isSheet : GoodIn wsX13_sheet wsX13_isSheet := goodIn_r _ [10, 2, 11, 12, 9, 13] (by decide +kernel) (by decide +kernel)
set_option maxRecDepth 20000 in
theorem gX13_sheet_X13_in : GoodIn wsX13_sheet (va_wsS RX13 175 yX13_in wsX13_in) := goodIn_app (goodIn_of _ (by decide +kernel)) ggX13_sheet_X13_in
set_option maxRecDepth 20000 in
theorem gX13_sheet_X13_isSheet : GoodIn wsX13_sheet (va_wsS RX13 332 yX13_isSheet wsX13_isSheet) := goodIn_app (goodIn_of _ (by decide +kernel)) ggX13_sheet_X13_isSheet
set_option maxRecDepth 20000 in
theorem in_X13_sheet_X13 : ∀ w ∈ wsX130, w ∈ wsX13_sheet := by decide +kernel
set_option maxHeartbeats 4000000 in
set_option maxRecDepth 100000 in
theorem f_X13_sheet (l : Launch) (D : va_G) (T : Nat → ClassId) (sz : Nat) (h0 : Nat) (fs0 : List Value) (a0 : Nat) (f34 : Nat → Int32) (a1 : Nat) (f35 : Nat → Int32) (a2 : Nat) (f36 : Nat → Int64) (a3 : Nat) (f37 : Nat → UInt64) (x1 : Int32) (x2 : Int32) (x3 : Int32) (hl0 : fs0.length = 45) (e0_34 : fs0[34]? = some (.ref a0)) (e0_35 : fs0[35]? = some (.ref a1)) (e0_36 : fs0[36]? = some (.ref a2)) (e0_37 : fs0[37]? = some (.ref a3)) : Met l yX13_sheet wsX13_sheet ({ frames := 2, cells := 0, slots := 0, locals := 45 }) (pW [.ref h0, .int x1, .int x2, .int x3] D T [(h0, .inr (10, fs0)), (a0, .inl (T 0, 4, .inl f34)), (a1, .inl (T 0, 4, .inl f35)), (a2, .inl (T 1, 120, .inr (.inl f36))), (a3, .inl (T 3, 120, .inr (.inr (.inr (.inl f37)))))] sz) (va_Qi (fun (r : Int32) (u : Unit) => r = sp_sheet x1 x2 x3) (bW D (va_A [(h0, .inr (10, fs0)), (a0, .inl (T 0, 4, .inl f34)), (a1, .inl (T 0, 4, .inl f35)), (a2, .inl (T 1, 120, .inr (.inl f36))), (a3, .inl (T 3, 120, .inr (.inr (.inr (.inl f37)))))] sz) (fun (u : Unit) => ([] : va_W))) (va_A [(h0, .inr (10, fs0)), (a0, .inl (T 0, 4, .inl f34)), (a1, .inl (T 0, 4, .inl f35)), (a2, .inl (T 1, 120, .inr (.inl f36))), (a3, .inl (T 3, 120, .inr (.inr (.inr (.inl f37)))))] sz)) 0 0 (va_A [(h0, .inr (10, fs0)), (a0, .inl (T 0, 4, .inl f34)), (a1, .inl (T 0, 4, .inl f35)), (a2, .inl (T 1, 120, .inr (.inl f36))), (a3, .inl (T 3, 120, .inr (.inr (.inr (.inl f37)))))] sz) := by
  refine Met.ofW (cc := cX13_sheet) (maxL := 5) (ret := (some .int)) (by decide) rfl ?_
  intro p e s m args below meth c s₁ B hml hv
  obtain ⟨rfl, hsz, hP, hE, hD0⟩ := hv
  have hx := B.exec
  have hb := B.bytes
  have hr := B.returns
  have hts := atoms_spec (ws := wsX13_sheet) B.pre
  have hown : s.vm.findClass RX13 = some m.cls := findClass_of_methodNamed B.named
  have hlocks := B.notSynchronized
  subst hsz
  have hD := hD0.self (sz := s.heap.size)
  generalize hAe : va_A [(h0, .inr (10, fs0)), (a0, .inl (T 0, 4, .inl f34)), (a1, .inl (T 0, 4, .inl f35)), (a2, .inl (T 1, 120, .inr (.inl f36))), (a3, .inl (T 3, 120, .inr (.inr (.inr (.inl f37)))))] s.heap.size = A at hD ⊢
  have hA : ∀ q : Nat, s.heap.size ≤ q → A q := fun q h => by rw [← hAe]; exact Or.inr h
  have hS : va_S A s.heap s.heap [] := va_S.rf
  have hP : va_P D vwCl [(h0, .inr (10, fs0)), (a0, .inl (T 0, 4, .inl f34)), (a1, .inl (T 0, 4, .inl f35)), (a2, .inl (T 1, 120, .inr (.inl f36))), (a3, .inl (T 3, 120, .inr (.inr (.inr (.inl f37)))))] s.heap := hP
  have hl := lv_entry ([.ref h0, .int x1, .int x2, .int x3]) (n := 5) (Nat.le_of_ble_eq_true rfl)
  rw [lg_entry_eq]
  generalize (lg_sl ([.ref h0, .int x1, .int x2, .int x3]) ++ List.replicate (5 - (lg_sl ([.ref h0, .int x1, .int x2, .int x3])).length) Slot.unset).toArray = ls at hl ⊢
  have hl : lv_has ls 5 [(0, .ref h0), (1, .int x1), (2, .int x2), (3, .int x3)] := hl
  clear hD0
  refine lv_iload_n hx hb dX13_sheet_0 rfl (lv_at hl 1 rfl) ?_
  refine vp_callSi (W.runS (As := [.int x1]) (rest := []) ⟨hx, hb, hml, hown, hts⟩ (c_X13_isSheet l D T x1) (va_cwS 1 hts gX13_sheet_X13_isSheet rfl rfl rfl (by decide +kernel) ⟨Nat.le_of_ble_eq_true rfl, Nat.le_of_ble_eq_true rfl⟩) (pR_S hP hE [] rfl) rfl rfl hl.1 rfl (lv_room (Nat.le_of_ble_eq_true rfl)) dX13_sheet_1 ⟨Nat.le_of_ble_eq_true rfl, Nat.le_of_ble_eq_true rfl⟩) (fun r_1 hr_1 => ?_)
  rcases bool_post hr_1 with ⟨c_2, rfl⟩ | ⟨c_2, rfl⟩
  · refine lv_if_eq (tgt := 31) hx hb dX13_sheet_4 (by decide) (fun c9 => absurd c9 (by decide)) (fun _ => ?_)
    refine lv_iload_n hx hb dX13_sheet_7 rfl (lv_at hl 2 rfl) ?_
    refine lv_i2l hx hb dX13_sheet_8 rfl ?_
    refine lv_ldc2 (v := (-1)) hx hb hown (hts (.constantLong RX13 135 (-1)) (List.mem_of_getElem? (i := 1) rfl)) dX13_sheet_9 ?_
    refine lv_ldc2 (v := 3) hx hb hown (hts (.constantLong RX13 408 (3)) (List.mem_of_getElem? (i := 2) rfl)) dX13_sheet_12 ?_
    refine vp_callSi (W.runS (As := [.long (x2.toInt64), .long (-1), .long 3]) (rest := []) ⟨hx, hb, hml, hown, hts⟩ (c_X13_in l D T (x2.toInt64) (-1) 3 x2.toInt (-1) 3 ((Int32.toInt_toInt64 _).trans rfl) (by decide) (by decide)) (va_cwS 3 hts gX13_sheet_X13_in rfl rfl rfl (by decide +kernel) ⟨Nat.le_of_ble_eq_true rfl, Nat.le_of_ble_eq_true rfl⟩) (pR_S hP hE [] rfl) rfl rfl hl.1 rfl (lv_room (Nat.le_of_ble_eq_true rfl)) dX13_sheet_15 ⟨Nat.le_of_ble_eq_true rfl, Nat.le_of_ble_eq_true rfl⟩) (fun r_3 hr_3 => ?_)
    rcases bool_post hr_3 with ⟨c_4, rfl⟩ | ⟨c_4, rfl⟩
    · refine lv_if_eq (tgt := 31) hx hb dX13_sheet_18 (by decide) (fun c9 => absurd c9 (by decide)) (fun _ => ?_)
      refine lv_iload_n hx hb dX13_sheet_21 rfl (lv_at hl 2 rfl) ?_
      refine lv_if_lt (tgt := 34) hx hb dX13_sheet_22 (by decide) (fun c_5 => ?_) (fun c_5 => ?_)
      · rw [fa_lt] at c_5
        try rw [ti_0] at c_5
        refine lv_iload_n hx hb dX13_sheet_34 rfl (lv_at hl 2 rfl) ?_
        refine lv_if_lt (tgt := 45) hx hb dX13_sheet_35 (by decide) (fun c_6 => ?_) (fun c_6 => ?_)
        · rw [fa_lt] at c_6
          try rw [ti_0] at c_6
          rcases in4 (x := x1) (by omega) with rfl | rfl | rfl | rfl
          · refine lv_aload_n hx hb dX13_sheet_45 rfl (lv_at hl 0 rfl) ?_
            refine va_get (D := D) (ci := 10) (v := .ref a0) (C := RX13) (T := TX13) (N := 45) hx hb hts in_X13_sheet_X13 hown hE.1 hP 0 rfl rfl 34 (by decide) (hts (.fieldLink RX13 104 "ClauseBookModel" "sorts" "[I") (List.mem_of_getElem? (i := 3) rfl)) (fun _ h9 => h9) e0_34 dX13_sheet_46 ?_
            refine lv_iload_n hx hb dX13_sheet_49 rfl (lv_at hl 1 rfl) ?_
            refine lv_iload_n hx hb dX13_sheet_50 rfl (lv_at hl 2 rfl) ?_
            refine va_iast hx hb hE.1 hP hD hS 1 0 rfl rfl (by unfold vp_in; decide) dX13_sheet_51 (fun H locs hP hD hS => ?_)
            have hP : va_P D vwCl [(h0, .inr (10, fs0)), (a0, .inl (T 0, 4, .inl (upd f34 0 x2))), (a1, .inl (T 0, 4, .inl f35)), (a2, .inl (T 1, 120, .inr (.inl f36))), (a3, .inl (T 3, 120, .inr (.inr (.inr (.inl f37)))))] H := hP
            have hD : va_D A [(h0, .inr (10, fs0)), (a0, .inl (T 0, 4, .inl (upd f34 0 x2))), (a1, .inl (T 0, 4, .inl f35)), (a2, .inl (T 1, 120, .inr (.inl f36))), (a3, .inl (T 3, 120, .inr (.inr (.inr (.inl f37)))))] := hD
            refine lv_aload_n hx hb dX13_sheet_52 rfl (lv_at hl 0 rfl) ?_
            refine va_get (D := D) (ci := 10) (v := .ref a1) (C := RX13) (T := TX13) (N := 45) hx hb hts in_X13_sheet_X13 hown hE.1 hP 0 rfl rfl 35 (by decide) (hts (.fieldLink RX13 107 "ClauseBookModel" "sizes" "[I") (List.mem_of_getElem? (i := 4) rfl)) (fun _ h9 => h9) e0_35 dX13_sheet_53 ?_
            refine lv_iload_n hx hb dX13_sheet_56 rfl (lv_at hl 1 rfl) ?_
            refine lv_iload_n hx hb dX13_sheet_57 rfl (lv_at hl 2 rfl) ?_
            refine lv_if_ge (tgt := 65) hx hb dX13_sheet_58 (by decide) (fun c_7 => ?_) (fun c_7 => ?_)
            · rw [fa_le] at c_7
              try rw [ti_0] at c_7
              refine lv_iload_n hx hb dX13_sheet_65 rfl (lv_at hl 3 rfl) ?_
              refine va_iast hx hb hE.1 hP hD hS 2 0 rfl rfl (by unfold vp_in; decide) dX13_sheet_66 (fun H locs hP hD hS => ?_)
              have hP : va_P D vwCl [(h0, .inr (10, fs0)), (a0, .inl (T 0, 4, .inl (upd f34 0 x2))), (a1, .inl (T 0, 4, .inl (upd f35 0 x3))), (a2, .inl (T 1, 120, .inr (.inl f36))), (a3, .inl (T 3, 120, .inr (.inr (.inr (.inl f37)))))] H := hP
              have hD : va_D A [(h0, .inr (10, fs0)), (a0, .inl (T 0, 4, .inl (upd f34 0 x2))), (a1, .inl (T 0, 4, .inl (upd f35 0 x3))), (a2, .inl (T 1, 120, .inr (.inl f36))), (a3, .inl (T 3, 120, .inr (.inr (.inr (.inl f37)))))] := hD
              refine lv_iconst (v := 0) hx hb dX13_sheet_67 (by decide) ?_
              refine lv_istore (lv' := [(4, .int 0), (0, .ref h0), (1, .int 0), (2, .int x2), (3, .int x3)]) hx hb dX13_sheet_68 hl (by decide) rfl (fun ls hl => ?_)
              refine loopW (σ := (Int32) × (Nat → Int64) × (Nat → UInt64)) (fun x9 ls H locs => lv_has ls 5 [(4, .int x9.1), (0, .ref h0), (1, .int 0), (2, .int x2), (3, .int x3)] ∧ va_P D vwCl [(h0, .inr (10, fs0)), (a0, .inl (T 0, 4, .inl (upd f34 0 x2))), (a1, .inl (T 0, 4, .inl (upd f35 0 x3))), (a2, .inl (T 1, 120, .inr (.inl x9.2.1))), (a3, .inl (T 3, 120, .inr (.inr (.inr (.inl x9.2.2)))))] H ∧ va_D A [(h0, .inr (10, fs0)), (a0, .inl (T 0, 4, .inl (upd f34 0 x2))), (a1, .inl (T 0, 4, .inl (upd f35 0 x3))), (a2, .inl (T 1, 120, .inr (.inl x9.2.1))), (a3, .inl (T 3, 120, .inr (.inr (.inr (.inl x9.2.2)))))] ∧ va_S A s.heap H locs ∧ (0 ≤ x9.1.toInt)) (fun x9 => (30 - x9.1.toInt).toNat) (fun x9 ls H locs hI ih => ?_) (0, f36, f37) ls ⟨lv_sub hl [0, 1, 2, 3, 4] rfl, hP.sub [0, 1, 2, 3, 4] rfl, hD.sub [0, 1, 2, 3, 4] (by decide) rfl, hS, (by (try dsimp only); decide)⟩
              obtain ⟨ii, f36, f37⟩ := x9
              obtain ⟨hl, hP, hD, hS, hinv⟩ := hI
              have hl : lv_has ls 5 [(4, .int ii), (0, .ref h0), (1, .int 0), (2, .int x2), (3, .int x3)] := hl
              have hP : va_P D vwCl [(h0, .inr (10, fs0)), (a0, .inl (T 0, 4, .inl (upd f34 0 x2))), (a1, .inl (T 0, 4, .inl (upd f35 0 x3))), (a2, .inl (T 1, 120, .inr (.inl f36))), (a3, .inl (T 3, 120, .inr (.inr (.inr (.inl f37)))))] H := hP
              have hD : va_D A [(h0, .inr (10, fs0)), (a0, .inl (T 0, 4, .inl (upd f34 0 x2))), (a1, .inl (T 0, 4, .inl (upd f35 0 x3))), (a2, .inl (T 1, 120, .inr (.inl f36))), (a3, .inl (T 3, 120, .inr (.inr (.inr (.inl f37)))))] := hD
              have hinv : 0 ≤ ii.toInt := hinv
              refine lv_iload hx hb dX13_sheet_70 (lv_at hl 0 rfl) ?_
              refine lv_bipush (v := 30) hx hb dX13_sheet_72 (by decide) ?_
              refine lv_icmp_ge (tgt := 109) hx hb dX13_sheet_74 (by decide) (fun c_8 => ?_) (fun c_8 => ?_)
              · rw [fa_le] at c_8
                try rw [ti_30] at c_8
                refine lv_iconst (v := 1) hx hb dX13_sheet_109 (by decide) ?_
                exact W.iret hx hb hr (fun t ht hW => ⟨⟨_, (), rfl, (by first | decide | (unfold sp_sheet; (repeat' split) <;> first | rfl | (exfalso; omega))), by rw [ht]; exact hP.sub [] rfl, hD.sub [] (by decide) rfl⟩, hS.F ht⟩) hS.2.2 dX13_sheet_110
              · rw [fa_le] at c_8
                try rw [ti_30] at c_8
                refine lv_aload_n hx hb dX13_sheet_77 rfl (lv_at hl 1 rfl) ?_
                refine va_get (D := D) (ci := 10) (v := .ref a2) (C := RX13) (T := TX13) (N := 45) hx hb hts in_X13_sheet_X13 hown hE.1 hP 0 rfl rfl 36 (by decide) (hts (.fieldLink RX13 110 "ClauseBookModel" "whole" "[J") (List.mem_of_getElem? (i := 5) rfl)) (fun _ h9 => h9) e0_36 dX13_sheet_78 ?_
                refine lv_bipush (v := 30) hx hb dX13_sheet_81 (by decide) ?_
                refine lv_iload_n hx hb dX13_sheet_83 rfl (lv_at hl 2 rfl) ?_
                refine lv_imul hx hb dX13_sheet_84 ?_
                refine lv_topi (fun z_9 ez_9 => ?_)
                obtain rfl : z_9 = 0 := ez_9.trans (by decide)
                refine lv_iload hx hb dX13_sheet_85 (lv_at hl 0 rfl) ?_
                refine lv_iadd hx hb dX13_sheet_87 ?_
                refine lv_lconst (v := 0) hx hb dX13_sheet_88 (by decide) ?_
                refine va_last hx hb hE.1 hP hD hS 3 1 rfl rfl (by rw [vp_in_iff, fb_addI (by rw [ti_0]; omega) (by rw [ti_0]; omega), ti_0]; omega) dX13_sheet_89 (fun H locs hP hD hS => ?_)
                have hP : va_P D vwCl [(h0, .inr (10, fs0)), (a0, .inl (T 0, 4, .inl (upd f34 0 x2))), (a1, .inl (T 0, 4, .inl (upd f35 0 x3))), (a2, .inl (T 1, 120, .inr (.inl (vp_updL f36 ((0 + ii).toNatClampNeg) 0)))), (a3, .inl (T 3, 120, .inr (.inr (.inr (.inl f37)))))] H := hP
                have hD : va_D A [(h0, .inr (10, fs0)), (a0, .inl (T 0, 4, .inl (upd f34 0 x2))), (a1, .inl (T 0, 4, .inl (upd f35 0 x3))), (a2, .inl (T 1, 120, .inr (.inl (vp_updL f36 ((0 + ii).toNatClampNeg) 0)))), (a3, .inl (T 3, 120, .inr (.inr (.inr (.inl f37)))))] := hD
                refine lv_aload_n hx hb dX13_sheet_90 rfl (lv_at hl 1 rfl) ?_
                refine va_get (D := D) (ci := 10) (v := .ref a3) (C := RX13) (T := TX13) (N := 45) hx hb hts in_X13_sheet_X13 hown hE.1 hP 0 rfl rfl 37 (by decide) (hts (.fieldLink RX13 113 "ClauseBookModel" "host" "[D") (List.mem_of_getElem? (i := 6) rfl)) (fun _ h9 => h9) e0_37 dX13_sheet_91 ?_
                refine lv_bipush (v := 30) hx hb dX13_sheet_94 (by decide) ?_
                refine lv_iload_n hx hb dX13_sheet_96 rfl (lv_at hl 2 rfl) ?_
                refine lv_imul hx hb dX13_sheet_97 ?_
                refine lv_topi (fun z_10 ez_10 => ?_)
                obtain rfl : z_10 = 0 := ez_10.trans (by decide)
                refine lv_iload hx hb dX13_sheet_98 (lv_at hl 0 rfl) ?_
                refine lv_iadd hx hb dX13_sheet_100 ?_
                refine lv_dconst0 hx hb dX13_sheet_101 ?_
                refine va_dast hx hb hE.1 hP hD hS 4 3 rfl rfl (by rw [vp_in_iff, fb_addI (by rw [ti_0]; omega) (by rw [ti_0]; omega), ti_0]; omega) dX13_sheet_102 (fun H locs hP hD hS => ?_)
                have hP : va_P D vwCl [(h0, .inr (10, fs0)), (a0, .inl (T 0, 4, .inl (upd f34 0 x2))), (a1, .inl (T 0, 4, .inl (upd f35 0 x3))), (a2, .inl (T 1, 120, .inr (.inl (vp_updL f36 ((0 + ii).toNatClampNeg) 0)))), (a3, .inl (T 3, 120, .inr (.inr (.inr (.inl (vf_upd f37 ((0 + ii).toNatClampNeg) FP.dconst0))))))] H := hP
                have hD : va_D A [(h0, .inr (10, fs0)), (a0, .inl (T 0, 4, .inl (upd f34 0 x2))), (a1, .inl (T 0, 4, .inl (upd f35 0 x3))), (a2, .inl (T 1, 120, .inr (.inl (vp_updL f36 ((0 + ii).toNatClampNeg) 0)))), (a3, .inl (T 3, 120, .inr (.inr (.inr (.inl (vf_upd f37 ((0 + ii).toNatClampNeg) FP.dconst0))))))] := hD
                obtain ⟨z_11, ez_11⟩ : ∃ y : Int32, y = ii + 1 := ⟨_, rfl⟩
                refine lv_iinc (v := z_11) (lv' := [(4, .int z_11), (0, .ref h0), (1, .int 0), (2, .int x2), (3, .int x3)]) hx hb dX13_sheet_103 hl (k := 0) rfl (by rw [ez_11]; rfl) (by decide) rfl (fun ls hl => ?_)
                refine lv_goto (tgt := 70) hx hb dX13_sheet_106 (by decide) ?_
                exact ih (z_11, (vp_updL f36 ((0 + ii).toNatClampNeg) 0), (vf_upd f37 ((0 + ii).toNatClampNeg) FP.dconst0)) ls _ _ ⟨lv_sub hl [0, 1, 2, 3, 4] rfl, hP.sub [0, 1, 2, 3, 4] rfl, hD.sub [0, 1, 2, 3, 4] (by decide) rfl, hS, (by subst_vars; (try dsimp only); rw [inc1 (n := 30) (by omega) (by decide)]; omega)⟩ (by subst_vars; (try dsimp only); rw [inc1 (n := 30) (by omega) (by decide)]; omega)
            · rw [fa_le] at c_7
              try rw [ti_0] at c_7
              refine lv_iconst (v := 0) hx hb dX13_sheet_61 (by decide) ?_
              refine lv_goto (tgt := 66) hx hb dX13_sheet_62 (by decide) ?_
              refine va_iast hx hb hE.1 hP hD hS 2 0 rfl rfl (by unfold vp_in; decide) dX13_sheet_66 (fun H locs hP hD hS => ?_)
              have hP : va_P D vwCl [(h0, .inr (10, fs0)), (a0, .inl (T 0, 4, .inl (upd f34 0 x2))), (a1, .inl (T 0, 4, .inl (upd f35 0 0))), (a2, .inl (T 1, 120, .inr (.inl f36))), (a3, .inl (T 3, 120, .inr (.inr (.inr (.inl f37)))))] H := hP
              have hD : va_D A [(h0, .inr (10, fs0)), (a0, .inl (T 0, 4, .inl (upd f34 0 x2))), (a1, .inl (T 0, 4, .inl (upd f35 0 0))), (a2, .inl (T 1, 120, .inr (.inl f36))), (a3, .inl (T 3, 120, .inr (.inr (.inr (.inl f37)))))] := hD
              refine lv_iconst (v := 0) hx hb dX13_sheet_67 (by decide) ?_
              refine lv_istore (lv' := [(4, .int 0), (0, .ref h0), (1, .int 0), (2, .int x2), (3, .int x3)]) hx hb dX13_sheet_68 hl (by decide) rfl (fun ls hl => ?_)
              refine loopW (σ := (Int32) × (Nat → Int64) × (Nat → UInt64)) (fun x9 ls H locs => lv_has ls 5 [(4, .int x9.1), (0, .ref h0), (1, .int 0), (2, .int x2), (3, .int x3)] ∧ va_P D vwCl [(h0, .inr (10, fs0)), (a0, .inl (T 0, 4, .inl (upd f34 0 x2))), (a1, .inl (T 0, 4, .inl (upd f35 0 0))), (a2, .inl (T 1, 120, .inr (.inl x9.2.1))), (a3, .inl (T 3, 120, .inr (.inr (.inr (.inl x9.2.2)))))] H ∧ va_D A [(h0, .inr (10, fs0)), (a0, .inl (T 0, 4, .inl (upd f34 0 x2))), (a1, .inl (T 0, 4, .inl (upd f35 0 0))), (a2, .inl (T 1, 120, .inr (.inl x9.2.1))), (a3, .inl (T 3, 120, .inr (.inr (.inr (.inl x9.2.2)))))] ∧ va_S A s.heap H locs ∧ (0 ≤ x9.1.toInt)) (fun x9 => (30 - x9.1.toInt).toNat) (fun x9 ls H locs hI ih => ?_) (0, f36, f37) ls ⟨lv_sub hl [0, 1, 2, 3, 4] rfl, hP.sub [0, 1, 2, 3, 4] rfl, hD.sub [0, 1, 2, 3, 4] (by decide) rfl, hS, (by (try dsimp only); decide)⟩
              obtain ⟨ii, f36, f37⟩ := x9
              obtain ⟨hl, hP, hD, hS, hinv⟩ := hI
              have hl : lv_has ls 5 [(4, .int ii), (0, .ref h0), (1, .int 0), (2, .int x2), (3, .int x3)] := hl
              have hP : va_P D vwCl [(h0, .inr (10, fs0)), (a0, .inl (T 0, 4, .inl (upd f34 0 x2))), (a1, .inl (T 0, 4, .inl (upd f35 0 0))), (a2, .inl (T 1, 120, .inr (.inl f36))), (a3, .inl (T 3, 120, .inr (.inr (.inr (.inl f37)))))] H := hP
              have hD : va_D A [(h0, .inr (10, fs0)), (a0, .inl (T 0, 4, .inl (upd f34 0 x2))), (a1, .inl (T 0, 4, .inl (upd f35 0 0))), (a2, .inl (T 1, 120, .inr (.inl f36))), (a3, .inl (T 3, 120, .inr (.inr (.inr (.inl f37)))))] := hD
              have hinv : 0 ≤ ii.toInt := hinv
              refine lv_iload hx hb dX13_sheet_70 (lv_at hl 0 rfl) ?_
              refine lv_bipush (v := 30) hx hb dX13_sheet_72 (by decide) ?_
              refine lv_icmp_ge (tgt := 109) hx hb dX13_sheet_74 (by decide) (fun c_12 => ?_) (fun c_12 => ?_)
              · rw [fa_le] at c_12
                try rw [ti_30] at c_12
                refine lv_iconst (v := 1) hx hb dX13_sheet_109 (by decide) ?_
                exact W.iret hx hb hr (fun t ht hW => ⟨⟨_, (), rfl, (by first | decide | (unfold sp_sheet; (repeat' split) <;> first | rfl | (exfalso; omega))), by rw [ht]; exact hP.sub [] rfl, hD.sub [] (by decide) rfl⟩, hS.F ht⟩) hS.2.2 dX13_sheet_110
              · rw [fa_le] at c_12
                try rw [ti_30] at c_12
                refine lv_aload_n hx hb dX13_sheet_77 rfl (lv_at hl 1 rfl) ?_
                refine va_get (D := D) (ci := 10) (v := .ref a2) (C := RX13) (T := TX13) (N := 45) hx hb hts in_X13_sheet_X13 hown hE.1 hP 0 rfl rfl 36 (by decide) (hts (.fieldLink RX13 110 "ClauseBookModel" "whole" "[J") (List.mem_of_getElem? (i := 5) rfl)) (fun _ h9 => h9) e0_36 dX13_sheet_78 ?_
                refine lv_bipush (v := 30) hx hb dX13_sheet_81 (by decide) ?_
                refine lv_iload_n hx hb dX13_sheet_83 rfl (lv_at hl 2 rfl) ?_
                refine lv_imul hx hb dX13_sheet_84 ?_
                refine lv_topi (fun z_13 ez_13 => ?_)
                obtain rfl : z_13 = 0 := ez_13.trans (by decide)
                refine lv_iload hx hb dX13_sheet_85 (lv_at hl 0 rfl) ?_
                refine lv_iadd hx hb dX13_sheet_87 ?_
                refine lv_lconst (v := 0) hx hb dX13_sheet_88 (by decide) ?_
                refine va_last hx hb hE.1 hP hD hS 3 1 rfl rfl (by rw [vp_in_iff, fb_addI (by rw [ti_0]; omega) (by rw [ti_0]; omega), ti_0]; omega) dX13_sheet_89 (fun H locs hP hD hS => ?_)
                have hP : va_P D vwCl [(h0, .inr (10, fs0)), (a0, .inl (T 0, 4, .inl (upd f34 0 x2))), (a1, .inl (T 0, 4, .inl (upd f35 0 0))), (a2, .inl (T 1, 120, .inr (.inl (vp_updL f36 ((0 + ii).toNatClampNeg) 0)))), (a3, .inl (T 3, 120, .inr (.inr (.inr (.inl f37)))))] H := hP
                have hD : va_D A [(h0, .inr (10, fs0)), (a0, .inl (T 0, 4, .inl (upd f34 0 x2))), (a1, .inl (T 0, 4, .inl (upd f35 0 0))), (a2, .inl (T 1, 120, .inr (.inl (vp_updL f36 ((0 + ii).toNatClampNeg) 0)))), (a3, .inl (T 3, 120, .inr (.inr (.inr (.inl f37)))))] := hD
                refine lv_aload_n hx hb dX13_sheet_90 rfl (lv_at hl 1 rfl) ?_
                refine va_get (D := D) (ci := 10) (v := .ref a3) (C := RX13) (T := TX13) (N := 45) hx hb hts in_X13_sheet_X13 hown hE.1 hP 0 rfl rfl 37 (by decide) (hts (.fieldLink RX13 113 "ClauseBookModel" "host" "[D") (List.mem_of_getElem? (i := 6) rfl)) (fun _ h9 => h9) e0_37 dX13_sheet_91 ?_
                refine lv_bipush (v := 30) hx hb dX13_sheet_94 (by decide) ?_
                refine lv_iload_n hx hb dX13_sheet_96 rfl (lv_at hl 2 rfl) ?_
                refine lv_imul hx hb dX13_sheet_97 ?_
                refine lv_topi (fun z_14 ez_14 => ?_)
                obtain rfl : z_14 = 0 := ez_14.trans (by decide)
                refine lv_iload hx hb dX13_sheet_98 (lv_at hl 0 rfl) ?_
                refine lv_iadd hx hb dX13_sheet_100 ?_
                refine lv_dconst0 hx hb dX13_sheet_101 ?_
                refine va_dast hx hb hE.1 hP hD hS 4 3 rfl rfl (by rw [vp_in_iff, fb_addI (by rw [ti_0]; omega) (by rw [ti_0]; omega), ti_0]; omega) dX13_sheet_102 (fun H locs hP hD hS => ?_)
                have hP : va_P D vwCl [(h0, .inr (10, fs0)), (a0, .inl (T 0, 4, .inl (upd f34 0 x2))), (a1, .inl (T 0, 4, .inl (upd f35 0 0))), (a2, .inl (T 1, 120, .inr (.inl (vp_updL f36 ((0 + ii).toNatClampNeg) 0)))), (a3, .inl (T 3, 120, .inr (.inr (.inr (.inl (vf_upd f37 ((0 + ii).toNatClampNeg) FP.dconst0))))))] H := hP
                have hD : va_D A [(h0, .inr (10, fs0)), (a0, .inl (T 0, 4, .inl (upd f34 0 x2))), (a1, .inl (T 0, 4, .inl (upd f35 0 0))), (a2, .inl (T 1, 120, .inr (.inl (vp_updL f36 ((0 + ii).toNatClampNeg) 0)))), (a3, .inl (T 3, 120, .inr (.inr (.inr (.inl (vf_upd f37 ((0 + ii).toNatClampNeg) FP.dconst0))))))] := hD
                obtain ⟨z_15, ez_15⟩ : ∃ y : Int32, y = ii + 1 := ⟨_, rfl⟩
                refine lv_iinc (v := z_15) (lv' := [(4, .int z_15), (0, .ref h0), (1, .int 0), (2, .int x2), (3, .int x3)]) hx hb dX13_sheet_103 hl (k := 0) rfl (by rw [ez_15]; rfl) (by decide) rfl (fun ls hl => ?_)
                refine lv_goto (tgt := 70) hx hb dX13_sheet_106 (by decide) ?_
                exact ih (z_15, (vp_updL f36 ((0 + ii).toNatClampNeg) 0), (vf_upd f37 ((0 + ii).toNatClampNeg) FP.dconst0)) ls _ _ ⟨lv_sub hl [0, 1, 2, 3, 4] rfl, hP.sub [0, 1, 2, 3, 4] rfl, hD.sub [0, 1, 2, 3, 4] (by decide) rfl, hS, (by subst_vars; (try dsimp only); rw [inc1 (n := 30) (by omega) (by decide)]; omega)⟩ (by subst_vars; (try dsimp only); rw [inc1 (n := 30) (by omega) (by decide)]; omega)
          · refine lv_aload_n hx hb dX13_sheet_45 rfl (lv_at hl 0 rfl) ?_
            refine va_get (D := D) (ci := 10) (v := .ref a0) (C := RX13) (T := TX13) (N := 45) hx hb hts in_X13_sheet_X13 hown hE.1 hP 0 rfl rfl 34 (by decide) (hts (.fieldLink RX13 104 "ClauseBookModel" "sorts" "[I") (List.mem_of_getElem? (i := 3) rfl)) (fun _ h9 => h9) e0_34 dX13_sheet_46 ?_
            refine lv_iload_n hx hb dX13_sheet_49 rfl (lv_at hl 1 rfl) ?_
            refine lv_iload_n hx hb dX13_sheet_50 rfl (lv_at hl 2 rfl) ?_
            refine va_iast hx hb hE.1 hP hD hS 1 0 rfl rfl (by unfold vp_in; decide) dX13_sheet_51 (fun H locs hP hD hS => ?_)
            have hP : va_P D vwCl [(h0, .inr (10, fs0)), (a0, .inl (T 0, 4, .inl (upd f34 1 x2))), (a1, .inl (T 0, 4, .inl f35)), (a2, .inl (T 1, 120, .inr (.inl f36))), (a3, .inl (T 3, 120, .inr (.inr (.inr (.inl f37)))))] H := hP
            have hD : va_D A [(h0, .inr (10, fs0)), (a0, .inl (T 0, 4, .inl (upd f34 1 x2))), (a1, .inl (T 0, 4, .inl f35)), (a2, .inl (T 1, 120, .inr (.inl f36))), (a3, .inl (T 3, 120, .inr (.inr (.inr (.inl f37)))))] := hD
            refine lv_aload_n hx hb dX13_sheet_52 rfl (lv_at hl 0 rfl) ?_
            refine va_get (D := D) (ci := 10) (v := .ref a1) (C := RX13) (T := TX13) (N := 45) hx hb hts in_X13_sheet_X13 hown hE.1 hP 0 rfl rfl 35 (by decide) (hts (.fieldLink RX13 107 "ClauseBookModel" "sizes" "[I") (List.mem_of_getElem? (i := 4) rfl)) (fun _ h9 => h9) e0_35 dX13_sheet_53 ?_
            refine lv_iload_n hx hb dX13_sheet_56 rfl (lv_at hl 1 rfl) ?_
            refine lv_iload_n hx hb dX13_sheet_57 rfl (lv_at hl 2 rfl) ?_
            refine lv_if_ge (tgt := 65) hx hb dX13_sheet_58 (by decide) (fun c_16 => ?_) (fun c_16 => ?_)
            · rw [fa_le] at c_16
              try rw [ti_0] at c_16
              refine lv_iload_n hx hb dX13_sheet_65 rfl (lv_at hl 3 rfl) ?_
              refine va_iast hx hb hE.1 hP hD hS 2 0 rfl rfl (by unfold vp_in; decide) dX13_sheet_66 (fun H locs hP hD hS => ?_)
              have hP : va_P D vwCl [(h0, .inr (10, fs0)), (a0, .inl (T 0, 4, .inl (upd f34 1 x2))), (a1, .inl (T 0, 4, .inl (upd f35 1 x3))), (a2, .inl (T 1, 120, .inr (.inl f36))), (a3, .inl (T 3, 120, .inr (.inr (.inr (.inl f37)))))] H := hP
              have hD : va_D A [(h0, .inr (10, fs0)), (a0, .inl (T 0, 4, .inl (upd f34 1 x2))), (a1, .inl (T 0, 4, .inl (upd f35 1 x3))), (a2, .inl (T 1, 120, .inr (.inl f36))), (a3, .inl (T 3, 120, .inr (.inr (.inr (.inl f37)))))] := hD
              refine lv_iconst (v := 0) hx hb dX13_sheet_67 (by decide) ?_
              refine lv_istore (lv' := [(4, .int 0), (0, .ref h0), (1, .int 1), (2, .int x2), (3, .int x3)]) hx hb dX13_sheet_68 hl (by decide) rfl (fun ls hl => ?_)
              refine loopW (σ := (Int32) × (Nat → Int64) × (Nat → UInt64)) (fun x9 ls H locs => lv_has ls 5 [(4, .int x9.1), (0, .ref h0), (1, .int 1), (2, .int x2), (3, .int x3)] ∧ va_P D vwCl [(h0, .inr (10, fs0)), (a0, .inl (T 0, 4, .inl (upd f34 1 x2))), (a1, .inl (T 0, 4, .inl (upd f35 1 x3))), (a2, .inl (T 1, 120, .inr (.inl x9.2.1))), (a3, .inl (T 3, 120, .inr (.inr (.inr (.inl x9.2.2)))))] H ∧ va_D A [(h0, .inr (10, fs0)), (a0, .inl (T 0, 4, .inl (upd f34 1 x2))), (a1, .inl (T 0, 4, .inl (upd f35 1 x3))), (a2, .inl (T 1, 120, .inr (.inl x9.2.1))), (a3, .inl (T 3, 120, .inr (.inr (.inr (.inl x9.2.2)))))] ∧ va_S A s.heap H locs ∧ (0 ≤ x9.1.toInt)) (fun x9 => (30 - x9.1.toInt).toNat) (fun x9 ls H locs hI ih => ?_) (0, f36, f37) ls ⟨lv_sub hl [0, 1, 2, 3, 4] rfl, hP.sub [0, 1, 2, 3, 4] rfl, hD.sub [0, 1, 2, 3, 4] (by decide) rfl, hS, (by (try dsimp only); decide)⟩
              obtain ⟨ii, f36, f37⟩ := x9
              obtain ⟨hl, hP, hD, hS, hinv⟩ := hI
              have hl : lv_has ls 5 [(4, .int ii), (0, .ref h0), (1, .int 1), (2, .int x2), (3, .int x3)] := hl
              have hP : va_P D vwCl [(h0, .inr (10, fs0)), (a0, .inl (T 0, 4, .inl (upd f34 1 x2))), (a1, .inl (T 0, 4, .inl (upd f35 1 x3))), (a2, .inl (T 1, 120, .inr (.inl f36))), (a3, .inl (T 3, 120, .inr (.inr (.inr (.inl f37)))))] H := hP
              have hD : va_D A [(h0, .inr (10, fs0)), (a0, .inl (T 0, 4, .inl (upd f34 1 x2))), (a1, .inl (T 0, 4, .inl (upd f35 1 x3))), (a2, .inl (T 1, 120, .inr (.inl f36))), (a3, .inl (T 3, 120, .inr (.inr (.inr (.inl f37)))))] := hD
              have hinv : 0 ≤ ii.toInt := hinv
              refine lv_iload hx hb dX13_sheet_70 (lv_at hl 0 rfl) ?_
              refine lv_bipush (v := 30) hx hb dX13_sheet_72 (by decide) ?_
              refine lv_icmp_ge (tgt := 109) hx hb dX13_sheet_74 (by decide) (fun c_17 => ?_) (fun c_17 => ?_)
              · rw [fa_le] at c_17
                try rw [ti_30] at c_17
                refine lv_iconst (v := 1) hx hb dX13_sheet_109 (by decide) ?_
                exact W.iret hx hb hr (fun t ht hW => ⟨⟨_, (), rfl, (by first | decide | (unfold sp_sheet; (repeat' split) <;> first | rfl | (exfalso; omega))), by rw [ht]; exact hP.sub [] rfl, hD.sub [] (by decide) rfl⟩, hS.F ht⟩) hS.2.2 dX13_sheet_110
              · rw [fa_le] at c_17
                try rw [ti_30] at c_17
                refine lv_aload_n hx hb dX13_sheet_77 rfl (lv_at hl 1 rfl) ?_
                refine va_get (D := D) (ci := 10) (v := .ref a2) (C := RX13) (T := TX13) (N := 45) hx hb hts in_X13_sheet_X13 hown hE.1 hP 0 rfl rfl 36 (by decide) (hts (.fieldLink RX13 110 "ClauseBookModel" "whole" "[J") (List.mem_of_getElem? (i := 5) rfl)) (fun _ h9 => h9) e0_36 dX13_sheet_78 ?_
                refine lv_bipush (v := 30) hx hb dX13_sheet_81 (by decide) ?_
                refine lv_iload_n hx hb dX13_sheet_83 rfl (lv_at hl 2 rfl) ?_
                refine lv_imul hx hb dX13_sheet_84 ?_
                refine lv_topi (fun z_18 ez_18 => ?_)
                obtain rfl : z_18 = 30 := ez_18.trans (by decide)
                refine lv_iload hx hb dX13_sheet_85 (lv_at hl 0 rfl) ?_
                refine lv_iadd hx hb dX13_sheet_87 ?_
                refine lv_lconst (v := 0) hx hb dX13_sheet_88 (by decide) ?_
                refine va_last hx hb hE.1 hP hD hS 3 1 rfl rfl (by rw [vp_in_iff, fb_addI (by rw [ti_30]; omega) (by rw [ti_30]; omega), ti_30]; omega) dX13_sheet_89 (fun H locs hP hD hS => ?_)
                have hP : va_P D vwCl [(h0, .inr (10, fs0)), (a0, .inl (T 0, 4, .inl (upd f34 1 x2))), (a1, .inl (T 0, 4, .inl (upd f35 1 x3))), (a2, .inl (T 1, 120, .inr (.inl (vp_updL f36 ((30 + ii).toNatClampNeg) 0)))), (a3, .inl (T 3, 120, .inr (.inr (.inr (.inl f37)))))] H := hP
                have hD : va_D A [(h0, .inr (10, fs0)), (a0, .inl (T 0, 4, .inl (upd f34 1 x2))), (a1, .inl (T 0, 4, .inl (upd f35 1 x3))), (a2, .inl (T 1, 120, .inr (.inl (vp_updL f36 ((30 + ii).toNatClampNeg) 0)))), (a3, .inl (T 3, 120, .inr (.inr (.inr (.inl f37)))))] := hD
                refine lv_aload_n hx hb dX13_sheet_90 rfl (lv_at hl 1 rfl) ?_
                refine va_get (D := D) (ci := 10) (v := .ref a3) (C := RX13) (T := TX13) (N := 45) hx hb hts in_X13_sheet_X13 hown hE.1 hP 0 rfl rfl 37 (by decide) (hts (.fieldLink RX13 113 "ClauseBookModel" "host" "[D") (List.mem_of_getElem? (i := 6) rfl)) (fun _ h9 => h9) e0_37 dX13_sheet_91 ?_
                refine lv_bipush (v := 30) hx hb dX13_sheet_94 (by decide) ?_
                refine lv_iload_n hx hb dX13_sheet_96 rfl (lv_at hl 2 rfl) ?_
                refine lv_imul hx hb dX13_sheet_97 ?_
                refine lv_topi (fun z_19 ez_19 => ?_)
                obtain rfl : z_19 = 30 := ez_19.trans (by decide)
                refine lv_iload hx hb dX13_sheet_98 (lv_at hl 0 rfl) ?_
                refine lv_iadd hx hb dX13_sheet_100 ?_
                refine lv_dconst0 hx hb dX13_sheet_101 ?_
                refine va_dast hx hb hE.1 hP hD hS 4 3 rfl rfl (by rw [vp_in_iff, fb_addI (by rw [ti_30]; omega) (by rw [ti_30]; omega), ti_30]; omega) dX13_sheet_102 (fun H locs hP hD hS => ?_)
                have hP : va_P D vwCl [(h0, .inr (10, fs0)), (a0, .inl (T 0, 4, .inl (upd f34 1 x2))), (a1, .inl (T 0, 4, .inl (upd f35 1 x3))), (a2, .inl (T 1, 120, .inr (.inl (vp_updL f36 ((30 + ii).toNatClampNeg) 0)))), (a3, .inl (T 3, 120, .inr (.inr (.inr (.inl (vf_upd f37 ((30 + ii).toNatClampNeg) FP.dconst0))))))] H := hP
                have hD : va_D A [(h0, .inr (10, fs0)), (a0, .inl (T 0, 4, .inl (upd f34 1 x2))), (a1, .inl (T 0, 4, .inl (upd f35 1 x3))), (a2, .inl (T 1, 120, .inr (.inl (vp_updL f36 ((30 + ii).toNatClampNeg) 0)))), (a3, .inl (T 3, 120, .inr (.inr (.inr (.inl (vf_upd f37 ((30 + ii).toNatClampNeg) FP.dconst0))))))] := hD
                obtain ⟨z_20, ez_20⟩ : ∃ y : Int32, y = ii + 1 := ⟨_, rfl⟩
                refine lv_iinc (v := z_20) (lv' := [(4, .int z_20), (0, .ref h0), (1, .int 1), (2, .int x2), (3, .int x3)]) hx hb dX13_sheet_103 hl (k := 0) rfl (by rw [ez_20]; rfl) (by decide) rfl (fun ls hl => ?_)
                refine lv_goto (tgt := 70) hx hb dX13_sheet_106 (by decide) ?_
                exact ih (z_20, (vp_updL f36 ((30 + ii).toNatClampNeg) 0), (vf_upd f37 ((30 + ii).toNatClampNeg) FP.dconst0)) ls _ _ ⟨lv_sub hl [0, 1, 2, 3, 4] rfl, hP.sub [0, 1, 2, 3, 4] rfl, hD.sub [0, 1, 2, 3, 4] (by decide) rfl, hS, (by subst_vars; (try dsimp only); rw [inc1 (n := 30) (by omega) (by decide)]; omega)⟩ (by subst_vars; (try dsimp only); rw [inc1 (n := 30) (by omega) (by decide)]; omega)
            · rw [fa_le] at c_16
              try rw [ti_0] at c_16
              refine lv_iconst (v := 0) hx hb dX13_sheet_61 (by decide) ?_
              refine lv_goto (tgt := 66) hx hb dX13_sheet_62 (by decide) ?_
              refine va_iast hx hb hE.1 hP hD hS 2 0 rfl rfl (by unfold vp_in; decide) dX13_sheet_66 (fun H locs hP hD hS => ?_)
              have hP : va_P D vwCl [(h0, .inr (10, fs0)), (a0, .inl (T 0, 4, .inl (upd f34 1 x2))), (a1, .inl (T 0, 4, .inl (upd f35 1 0))), (a2, .inl (T 1, 120, .inr (.inl f36))), (a3, .inl (T 3, 120, .inr (.inr (.inr (.inl f37)))))] H := hP
              have hD : va_D A [(h0, .inr (10, fs0)), (a0, .inl (T 0, 4, .inl (upd f34 1 x2))), (a1, .inl (T 0, 4, .inl (upd f35 1 0))), (a2, .inl (T 1, 120, .inr (.inl f36))), (a3, .inl (T 3, 120, .inr (.inr (.inr (.inl f37)))))] := hD
              refine lv_iconst (v := 0) hx hb dX13_sheet_67 (by decide) ?_
              refine lv_istore (lv' := [(4, .int 0), (0, .ref h0), (1, .int 1), (2, .int x2), (3, .int x3)]) hx hb dX13_sheet_68 hl (by decide) rfl (fun ls hl => ?_)
              refine loopW (σ := (Int32) × (Nat → Int64) × (Nat → UInt64)) (fun x9 ls H locs => lv_has ls 5 [(4, .int x9.1), (0, .ref h0), (1, .int 1), (2, .int x2), (3, .int x3)] ∧ va_P D vwCl [(h0, .inr (10, fs0)), (a0, .inl (T 0, 4, .inl (upd f34 1 x2))), (a1, .inl (T 0, 4, .inl (upd f35 1 0))), (a2, .inl (T 1, 120, .inr (.inl x9.2.1))), (a3, .inl (T 3, 120, .inr (.inr (.inr (.inl x9.2.2)))))] H ∧ va_D A [(h0, .inr (10, fs0)), (a0, .inl (T 0, 4, .inl (upd f34 1 x2))), (a1, .inl (T 0, 4, .inl (upd f35 1 0))), (a2, .inl (T 1, 120, .inr (.inl x9.2.1))), (a3, .inl (T 3, 120, .inr (.inr (.inr (.inl x9.2.2)))))] ∧ va_S A s.heap H locs ∧ (0 ≤ x9.1.toInt)) (fun x9 => (30 - x9.1.toInt).toNat) (fun x9 ls H locs hI ih => ?_) (0, f36, f37) ls ⟨lv_sub hl [0, 1, 2, 3, 4] rfl, hP.sub [0, 1, 2, 3, 4] rfl, hD.sub [0, 1, 2, 3, 4] (by decide) rfl, hS, (by (try dsimp only); decide)⟩
              obtain ⟨ii, f36, f37⟩ := x9
              obtain ⟨hl, hP, hD, hS, hinv⟩ := hI
              have hl : lv_has ls 5 [(4, .int ii), (0, .ref h0), (1, .int 1), (2, .int x2), (3, .int x3)] := hl
              have hP : va_P D vwCl [(h0, .inr (10, fs0)), (a0, .inl (T 0, 4, .inl (upd f34 1 x2))), (a1, .inl (T 0, 4, .inl (upd f35 1 0))), (a2, .inl (T 1, 120, .inr (.inl f36))), (a3, .inl (T 3, 120, .inr (.inr (.inr (.inl f37)))))] H := hP
              have hD : va_D A [(h0, .inr (10, fs0)), (a0, .inl (T 0, 4, .inl (upd f34 1 x2))), (a1, .inl (T 0, 4, .inl (upd f35 1 0))), (a2, .inl (T 1, 120, .inr (.inl f36))), (a3, .inl (T 3, 120, .inr (.inr (.inr (.inl f37)))))] := hD
              have hinv : 0 ≤ ii.toInt := hinv
              refine lv_iload hx hb dX13_sheet_70 (lv_at hl 0 rfl) ?_
              refine lv_bipush (v := 30) hx hb dX13_sheet_72 (by decide) ?_
              refine lv_icmp_ge (tgt := 109) hx hb dX13_sheet_74 (by decide) (fun c_21 => ?_) (fun c_21 => ?_)
              · rw [fa_le] at c_21
                try rw [ti_30] at c_21
                refine lv_iconst (v := 1) hx hb dX13_sheet_109 (by decide) ?_
                exact W.iret hx hb hr (fun t ht hW => ⟨⟨_, (), rfl, (by first | decide | (unfold sp_sheet; (repeat' split) <;> first | rfl | (exfalso; omega))), by rw [ht]; exact hP.sub [] rfl, hD.sub [] (by decide) rfl⟩, hS.F ht⟩) hS.2.2 dX13_sheet_110
              · rw [fa_le] at c_21
                try rw [ti_30] at c_21
                refine lv_aload_n hx hb dX13_sheet_77 rfl (lv_at hl 1 rfl) ?_
                refine va_get (D := D) (ci := 10) (v := .ref a2) (C := RX13) (T := TX13) (N := 45) hx hb hts in_X13_sheet_X13 hown hE.1 hP 0 rfl rfl 36 (by decide) (hts (.fieldLink RX13 110 "ClauseBookModel" "whole" "[J") (List.mem_of_getElem? (i := 5) rfl)) (fun _ h9 => h9) e0_36 dX13_sheet_78 ?_
                refine lv_bipush (v := 30) hx hb dX13_sheet_81 (by decide) ?_
                refine lv_iload_n hx hb dX13_sheet_83 rfl (lv_at hl 2 rfl) ?_
                refine lv_imul hx hb dX13_sheet_84 ?_
                refine lv_topi (fun z_22 ez_22 => ?_)
                obtain rfl : z_22 = 30 := ez_22.trans (by decide)
                refine lv_iload hx hb dX13_sheet_85 (lv_at hl 0 rfl) ?_
                refine lv_iadd hx hb dX13_sheet_87 ?_
                refine lv_lconst (v := 0) hx hb dX13_sheet_88 (by decide) ?_
                refine va_last hx hb hE.1 hP hD hS 3 1 rfl rfl (by rw [vp_in_iff, fb_addI (by rw [ti_30]; omega) (by rw [ti_30]; omega), ti_30]; omega) dX13_sheet_89 (fun H locs hP hD hS => ?_)
                have hP : va_P D vwCl [(h0, .inr (10, fs0)), (a0, .inl (T 0, 4, .inl (upd f34 1 x2))), (a1, .inl (T 0, 4, .inl (upd f35 1 0))), (a2, .inl (T 1, 120, .inr (.inl (vp_updL f36 ((30 + ii).toNatClampNeg) 0)))), (a3, .inl (T 3, 120, .inr (.inr (.inr (.inl f37)))))] H := hP
                have hD : va_D A [(h0, .inr (10, fs0)), (a0, .inl (T 0, 4, .inl (upd f34 1 x2))), (a1, .inl (T 0, 4, .inl (upd f35 1 0))), (a2, .inl (T 1, 120, .inr (.inl (vp_updL f36 ((30 + ii).toNatClampNeg) 0)))), (a3, .inl (T 3, 120, .inr (.inr (.inr (.inl f37)))))] := hD
                refine lv_aload_n hx hb dX13_sheet_90 rfl (lv_at hl 1 rfl) ?_
                refine va_get (D := D) (ci := 10) (v := .ref a3) (C := RX13) (T := TX13) (N := 45) hx hb hts in_X13_sheet_X13 hown hE.1 hP 0 rfl rfl 37 (by decide) (hts (.fieldLink RX13 113 "ClauseBookModel" "host" "[D") (List.mem_of_getElem? (i := 6) rfl)) (fun _ h9 => h9) e0_37 dX13_sheet_91 ?_
                refine lv_bipush (v := 30) hx hb dX13_sheet_94 (by decide) ?_
                refine lv_iload_n hx hb dX13_sheet_96 rfl (lv_at hl 2 rfl) ?_
                refine lv_imul hx hb dX13_sheet_97 ?_
                refine lv_topi (fun z_23 ez_23 => ?_)
                obtain rfl : z_23 = 30 := ez_23.trans (by decide)
                refine lv_iload hx hb dX13_sheet_98 (lv_at hl 0 rfl) ?_
                refine lv_iadd hx hb dX13_sheet_100 ?_
                refine lv_dconst0 hx hb dX13_sheet_101 ?_
                refine va_dast hx hb hE.1 hP hD hS 4 3 rfl rfl (by rw [vp_in_iff, fb_addI (by rw [ti_30]; omega) (by rw [ti_30]; omega), ti_30]; omega) dX13_sheet_102 (fun H locs hP hD hS => ?_)
                have hP : va_P D vwCl [(h0, .inr (10, fs0)), (a0, .inl (T 0, 4, .inl (upd f34 1 x2))), (a1, .inl (T 0, 4, .inl (upd f35 1 0))), (a2, .inl (T 1, 120, .inr (.inl (vp_updL f36 ((30 + ii).toNatClampNeg) 0)))), (a3, .inl (T 3, 120, .inr (.inr (.inr (.inl (vf_upd f37 ((30 + ii).toNatClampNeg) FP.dconst0))))))] H := hP
                have hD : va_D A [(h0, .inr (10, fs0)), (a0, .inl (T 0, 4, .inl (upd f34 1 x2))), (a1, .inl (T 0, 4, .inl (upd f35 1 0))), (a2, .inl (T 1, 120, .inr (.inl (vp_updL f36 ((30 + ii).toNatClampNeg) 0)))), (a3, .inl (T 3, 120, .inr (.inr (.inr (.inl (vf_upd f37 ((30 + ii).toNatClampNeg) FP.dconst0))))))] := hD
                obtain ⟨z_24, ez_24⟩ : ∃ y : Int32, y = ii + 1 := ⟨_, rfl⟩
                refine lv_iinc (v := z_24) (lv' := [(4, .int z_24), (0, .ref h0), (1, .int 1), (2, .int x2), (3, .int x3)]) hx hb dX13_sheet_103 hl (k := 0) rfl (by rw [ez_24]; rfl) (by decide) rfl (fun ls hl => ?_)
                refine lv_goto (tgt := 70) hx hb dX13_sheet_106 (by decide) ?_
                exact ih (z_24, (vp_updL f36 ((30 + ii).toNatClampNeg) 0), (vf_upd f37 ((30 + ii).toNatClampNeg) FP.dconst0)) ls _ _ ⟨lv_sub hl [0, 1, 2, 3, 4] rfl, hP.sub [0, 1, 2, 3, 4] rfl, hD.sub [0, 1, 2, 3, 4] (by decide) rfl, hS, (by subst_vars; (try dsimp only); rw [inc1 (n := 30) (by omega) (by decide)]; omega)⟩ (by subst_vars; (try dsimp only); rw [inc1 (n := 30) (by omega) (by decide)]; omega)
          · refine lv_aload_n hx hb dX13_sheet_45 rfl (lv_at hl 0 rfl) ?_
            refine va_get (D := D) (ci := 10) (v := .ref a0) (C := RX13) (T := TX13) (N := 45) hx hb hts in_X13_sheet_X13 hown hE.1 hP 0 rfl rfl 34 (by decide) (hts (.fieldLink RX13 104 "ClauseBookModel" "sorts" "[I") (List.mem_of_getElem? (i := 3) rfl)) (fun _ h9 => h9) e0_34 dX13_sheet_46 ?_
            refine lv_iload_n hx hb dX13_sheet_49 rfl (lv_at hl 1 rfl) ?_
            refine lv_iload_n hx hb dX13_sheet_50 rfl (lv_at hl 2 rfl) ?_
            refine va_iast hx hb hE.1 hP hD hS 1 0 rfl rfl (by unfold vp_in; decide) dX13_sheet_51 (fun H locs hP hD hS => ?_)
            have hP : va_P D vwCl [(h0, .inr (10, fs0)), (a0, .inl (T 0, 4, .inl (upd f34 2 x2))), (a1, .inl (T 0, 4, .inl f35)), (a2, .inl (T 1, 120, .inr (.inl f36))), (a3, .inl (T 3, 120, .inr (.inr (.inr (.inl f37)))))] H := hP
            have hD : va_D A [(h0, .inr (10, fs0)), (a0, .inl (T 0, 4, .inl (upd f34 2 x2))), (a1, .inl (T 0, 4, .inl f35)), (a2, .inl (T 1, 120, .inr (.inl f36))), (a3, .inl (T 3, 120, .inr (.inr (.inr (.inl f37)))))] := hD
            refine lv_aload_n hx hb dX13_sheet_52 rfl (lv_at hl 0 rfl) ?_
            refine va_get (D := D) (ci := 10) (v := .ref a1) (C := RX13) (T := TX13) (N := 45) hx hb hts in_X13_sheet_X13 hown hE.1 hP 0 rfl rfl 35 (by decide) (hts (.fieldLink RX13 107 "ClauseBookModel" "sizes" "[I") (List.mem_of_getElem? (i := 4) rfl)) (fun _ h9 => h9) e0_35 dX13_sheet_53 ?_
            refine lv_iload_n hx hb dX13_sheet_56 rfl (lv_at hl 1 rfl) ?_
            refine lv_iload_n hx hb dX13_sheet_57 rfl (lv_at hl 2 rfl) ?_
            refine lv_if_ge (tgt := 65) hx hb dX13_sheet_58 (by decide) (fun c_25 => ?_) (fun c_25 => ?_)
            · rw [fa_le] at c_25
              try rw [ti_0] at c_25
              refine lv_iload_n hx hb dX13_sheet_65 rfl (lv_at hl 3 rfl) ?_
              refine va_iast hx hb hE.1 hP hD hS 2 0 rfl rfl (by unfold vp_in; decide) dX13_sheet_66 (fun H locs hP hD hS => ?_)
              have hP : va_P D vwCl [(h0, .inr (10, fs0)), (a0, .inl (T 0, 4, .inl (upd f34 2 x2))), (a1, .inl (T 0, 4, .inl (upd f35 2 x3))), (a2, .inl (T 1, 120, .inr (.inl f36))), (a3, .inl (T 3, 120, .inr (.inr (.inr (.inl f37)))))] H := hP
              have hD : va_D A [(h0, .inr (10, fs0)), (a0, .inl (T 0, 4, .inl (upd f34 2 x2))), (a1, .inl (T 0, 4, .inl (upd f35 2 x3))), (a2, .inl (T 1, 120, .inr (.inl f36))), (a3, .inl (T 3, 120, .inr (.inr (.inr (.inl f37)))))] := hD
              refine lv_iconst (v := 0) hx hb dX13_sheet_67 (by decide) ?_
              refine lv_istore (lv' := [(4, .int 0), (0, .ref h0), (1, .int 2), (2, .int x2), (3, .int x3)]) hx hb dX13_sheet_68 hl (by decide) rfl (fun ls hl => ?_)
              refine loopW (σ := (Int32) × (Nat → Int64) × (Nat → UInt64)) (fun x9 ls H locs => lv_has ls 5 [(4, .int x9.1), (0, .ref h0), (1, .int 2), (2, .int x2), (3, .int x3)] ∧ va_P D vwCl [(h0, .inr (10, fs0)), (a0, .inl (T 0, 4, .inl (upd f34 2 x2))), (a1, .inl (T 0, 4, .inl (upd f35 2 x3))), (a2, .inl (T 1, 120, .inr (.inl x9.2.1))), (a3, .inl (T 3, 120, .inr (.inr (.inr (.inl x9.2.2)))))] H ∧ va_D A [(h0, .inr (10, fs0)), (a0, .inl (T 0, 4, .inl (upd f34 2 x2))), (a1, .inl (T 0, 4, .inl (upd f35 2 x3))), (a2, .inl (T 1, 120, .inr (.inl x9.2.1))), (a3, .inl (T 3, 120, .inr (.inr (.inr (.inl x9.2.2)))))] ∧ va_S A s.heap H locs ∧ (0 ≤ x9.1.toInt)) (fun x9 => (30 - x9.1.toInt).toNat) (fun x9 ls H locs hI ih => ?_) (0, f36, f37) ls ⟨lv_sub hl [0, 1, 2, 3, 4] rfl, hP.sub [0, 1, 2, 3, 4] rfl, hD.sub [0, 1, 2, 3, 4] (by decide) rfl, hS, (by (try dsimp only); decide)⟩
              obtain ⟨ii, f36, f37⟩ := x9
              obtain ⟨hl, hP, hD, hS, hinv⟩ := hI
              have hl : lv_has ls 5 [(4, .int ii), (0, .ref h0), (1, .int 2), (2, .int x2), (3, .int x3)] := hl
              have hP : va_P D vwCl [(h0, .inr (10, fs0)), (a0, .inl (T 0, 4, .inl (upd f34 2 x2))), (a1, .inl (T 0, 4, .inl (upd f35 2 x3))), (a2, .inl (T 1, 120, .inr (.inl f36))), (a3, .inl (T 3, 120, .inr (.inr (.inr (.inl f37)))))] H := hP
              have hD : va_D A [(h0, .inr (10, fs0)), (a0, .inl (T 0, 4, .inl (upd f34 2 x2))), (a1, .inl (T 0, 4, .inl (upd f35 2 x3))), (a2, .inl (T 1, 120, .inr (.inl f36))), (a3, .inl (T 3, 120, .inr (.inr (.inr (.inl f37)))))] := hD
              have hinv : 0 ≤ ii.toInt := hinv
              refine lv_iload hx hb dX13_sheet_70 (lv_at hl 0 rfl) ?_
              refine lv_bipush (v := 30) hx hb dX13_sheet_72 (by decide) ?_
              refine lv_icmp_ge (tgt := 109) hx hb dX13_sheet_74 (by decide) (fun c_26 => ?_) (fun c_26 => ?_)
              · rw [fa_le] at c_26
                try rw [ti_30] at c_26
                refine lv_iconst (v := 1) hx hb dX13_sheet_109 (by decide) ?_
                exact W.iret hx hb hr (fun t ht hW => ⟨⟨_, (), rfl, (by first | decide | (unfold sp_sheet; (repeat' split) <;> first | rfl | (exfalso; omega))), by rw [ht]; exact hP.sub [] rfl, hD.sub [] (by decide) rfl⟩, hS.F ht⟩) hS.2.2 dX13_sheet_110
              · rw [fa_le] at c_26
                try rw [ti_30] at c_26
                refine lv_aload_n hx hb dX13_sheet_77 rfl (lv_at hl 1 rfl) ?_
                refine va_get (D := D) (ci := 10) (v := .ref a2) (C := RX13) (T := TX13) (N := 45) hx hb hts in_X13_sheet_X13 hown hE.1 hP 0 rfl rfl 36 (by decide) (hts (.fieldLink RX13 110 "ClauseBookModel" "whole" "[J") (List.mem_of_getElem? (i := 5) rfl)) (fun _ h9 => h9) e0_36 dX13_sheet_78 ?_
                refine lv_bipush (v := 30) hx hb dX13_sheet_81 (by decide) ?_
                refine lv_iload_n hx hb dX13_sheet_83 rfl (lv_at hl 2 rfl) ?_
                refine lv_imul hx hb dX13_sheet_84 ?_
                refine lv_topi (fun z_27 ez_27 => ?_)
                obtain rfl : z_27 = 60 := ez_27.trans (by decide)
                refine lv_iload hx hb dX13_sheet_85 (lv_at hl 0 rfl) ?_
                refine lv_iadd hx hb dX13_sheet_87 ?_
                refine lv_lconst (v := 0) hx hb dX13_sheet_88 (by decide) ?_
                refine va_last hx hb hE.1 hP hD hS 3 1 rfl rfl (by rw [vp_in_iff, fb_addI (by rw [ti_60]; omega) (by rw [ti_60]; omega), ti_60]; omega) dX13_sheet_89 (fun H locs hP hD hS => ?_)
                have hP : va_P D vwCl [(h0, .inr (10, fs0)), (a0, .inl (T 0, 4, .inl (upd f34 2 x2))), (a1, .inl (T 0, 4, .inl (upd f35 2 x3))), (a2, .inl (T 1, 120, .inr (.inl (vp_updL f36 ((60 + ii).toNatClampNeg) 0)))), (a3, .inl (T 3, 120, .inr (.inr (.inr (.inl f37)))))] H := hP
                have hD : va_D A [(h0, .inr (10, fs0)), (a0, .inl (T 0, 4, .inl (upd f34 2 x2))), (a1, .inl (T 0, 4, .inl (upd f35 2 x3))), (a2, .inl (T 1, 120, .inr (.inl (vp_updL f36 ((60 + ii).toNatClampNeg) 0)))), (a3, .inl (T 3, 120, .inr (.inr (.inr (.inl f37)))))] := hD
                refine lv_aload_n hx hb dX13_sheet_90 rfl (lv_at hl 1 rfl) ?_
                refine va_get (D := D) (ci := 10) (v := .ref a3) (C := RX13) (T := TX13) (N := 45) hx hb hts in_X13_sheet_X13 hown hE.1 hP 0 rfl rfl 37 (by decide) (hts (.fieldLink RX13 113 "ClauseBookModel" "host" "[D") (List.mem_of_getElem? (i := 6) rfl)) (fun _ h9 => h9) e0_37 dX13_sheet_91 ?_
                refine lv_bipush (v := 30) hx hb dX13_sheet_94 (by decide) ?_
                refine lv_iload_n hx hb dX13_sheet_96 rfl (lv_at hl 2 rfl) ?_
                refine lv_imul hx hb dX13_sheet_97 ?_
                refine lv_topi (fun z_28 ez_28 => ?_)
                obtain rfl : z_28 = 60 := ez_28.trans (by decide)
                refine lv_iload hx hb dX13_sheet_98 (lv_at hl 0 rfl) ?_
                refine lv_iadd hx hb dX13_sheet_100 ?_
                refine lv_dconst0 hx hb dX13_sheet_101 ?_
                refine va_dast hx hb hE.1 hP hD hS 4 3 rfl rfl (by rw [vp_in_iff, fb_addI (by rw [ti_60]; omega) (by rw [ti_60]; omega), ti_60]; omega) dX13_sheet_102 (fun H locs hP hD hS => ?_)
                have hP : va_P D vwCl [(h0, .inr (10, fs0)), (a0, .inl (T 0, 4, .inl (upd f34 2 x2))), (a1, .inl (T 0, 4, .inl (upd f35 2 x3))), (a2, .inl (T 1, 120, .inr (.inl (vp_updL f36 ((60 + ii).toNatClampNeg) 0)))), (a3, .inl (T 3, 120, .inr (.inr (.inr (.inl (vf_upd f37 ((60 + ii).toNatClampNeg) FP.dconst0))))))] H := hP
                have hD : va_D A [(h0, .inr (10, fs0)), (a0, .inl (T 0, 4, .inl (upd f34 2 x2))), (a1, .inl (T 0, 4, .inl (upd f35 2 x3))), (a2, .inl (T 1, 120, .inr (.inl (vp_updL f36 ((60 + ii).toNatClampNeg) 0)))), (a3, .inl (T 3, 120, .inr (.inr (.inr (.inl (vf_upd f37 ((60 + ii).toNatClampNeg) FP.dconst0))))))] := hD
                obtain ⟨z_29, ez_29⟩ : ∃ y : Int32, y = ii + 1 := ⟨_, rfl⟩
                refine lv_iinc (v := z_29) (lv' := [(4, .int z_29), (0, .ref h0), (1, .int 2), (2, .int x2), (3, .int x3)]) hx hb dX13_sheet_103 hl (k := 0) rfl (by rw [ez_29]; rfl) (by decide) rfl (fun ls hl => ?_)
                refine lv_goto (tgt := 70) hx hb dX13_sheet_106 (by decide) ?_
                exact ih (z_29, (vp_updL f36 ((60 + ii).toNatClampNeg) 0), (vf_upd f37 ((60 + ii).toNatClampNeg) FP.dconst0)) ls _ _ ⟨lv_sub hl [0, 1, 2, 3, 4] rfl, hP.sub [0, 1, 2, 3, 4] rfl, hD.sub [0, 1, 2, 3, 4] (by decide) rfl, hS, (by subst_vars; (try dsimp only); rw [inc1 (n := 30) (by omega) (by decide)]; omega)⟩ (by subst_vars; (try dsimp only); rw [inc1 (n := 30) (by omega) (by decide)]; omega)
            · rw [fa_le] at c_25
              try rw [ti_0] at c_25
              refine lv_iconst (v := 0) hx hb dX13_sheet_61 (by decide) ?_
              refine lv_goto (tgt := 66) hx hb dX13_sheet_62 (by decide) ?_
              refine va_iast hx hb hE.1 hP hD hS 2 0 rfl rfl (by unfold vp_in; decide) dX13_sheet_66 (fun H locs hP hD hS => ?_)
              have hP : va_P D vwCl [(h0, .inr (10, fs0)), (a0, .inl (T 0, 4, .inl (upd f34 2 x2))), (a1, .inl (T 0, 4, .inl (upd f35 2 0))), (a2, .inl (T 1, 120, .inr (.inl f36))), (a3, .inl (T 3, 120, .inr (.inr (.inr (.inl f37)))))] H := hP
              have hD : va_D A [(h0, .inr (10, fs0)), (a0, .inl (T 0, 4, .inl (upd f34 2 x2))), (a1, .inl (T 0, 4, .inl (upd f35 2 0))), (a2, .inl (T 1, 120, .inr (.inl f36))), (a3, .inl (T 3, 120, .inr (.inr (.inr (.inl f37)))))] := hD
              refine lv_iconst (v := 0) hx hb dX13_sheet_67 (by decide) ?_
              refine lv_istore (lv' := [(4, .int 0), (0, .ref h0), (1, .int 2), (2, .int x2), (3, .int x3)]) hx hb dX13_sheet_68 hl (by decide) rfl (fun ls hl => ?_)
              refine loopW (σ := (Int32) × (Nat → Int64) × (Nat → UInt64)) (fun x9 ls H locs => lv_has ls 5 [(4, .int x9.1), (0, .ref h0), (1, .int 2), (2, .int x2), (3, .int x3)] ∧ va_P D vwCl [(h0, .inr (10, fs0)), (a0, .inl (T 0, 4, .inl (upd f34 2 x2))), (a1, .inl (T 0, 4, .inl (upd f35 2 0))), (a2, .inl (T 1, 120, .inr (.inl x9.2.1))), (a3, .inl (T 3, 120, .inr (.inr (.inr (.inl x9.2.2)))))] H ∧ va_D A [(h0, .inr (10, fs0)), (a0, .inl (T 0, 4, .inl (upd f34 2 x2))), (a1, .inl (T 0, 4, .inl (upd f35 2 0))), (a2, .inl (T 1, 120, .inr (.inl x9.2.1))), (a3, .inl (T 3, 120, .inr (.inr (.inr (.inl x9.2.2)))))] ∧ va_S A s.heap H locs ∧ (0 ≤ x9.1.toInt)) (fun x9 => (30 - x9.1.toInt).toNat) (fun x9 ls H locs hI ih => ?_) (0, f36, f37) ls ⟨lv_sub hl [0, 1, 2, 3, 4] rfl, hP.sub [0, 1, 2, 3, 4] rfl, hD.sub [0, 1, 2, 3, 4] (by decide) rfl, hS, (by (try dsimp only); decide)⟩
              obtain ⟨ii, f36, f37⟩ := x9
              obtain ⟨hl, hP, hD, hS, hinv⟩ := hI
              have hl : lv_has ls 5 [(4, .int ii), (0, .ref h0), (1, .int 2), (2, .int x2), (3, .int x3)] := hl
              have hP : va_P D vwCl [(h0, .inr (10, fs0)), (a0, .inl (T 0, 4, .inl (upd f34 2 x2))), (a1, .inl (T 0, 4, .inl (upd f35 2 0))), (a2, .inl (T 1, 120, .inr (.inl f36))), (a3, .inl (T 3, 120, .inr (.inr (.inr (.inl f37)))))] H := hP
              have hD : va_D A [(h0, .inr (10, fs0)), (a0, .inl (T 0, 4, .inl (upd f34 2 x2))), (a1, .inl (T 0, 4, .inl (upd f35 2 0))), (a2, .inl (T 1, 120, .inr (.inl f36))), (a3, .inl (T 3, 120, .inr (.inr (.inr (.inl f37)))))] := hD
              have hinv : 0 ≤ ii.toInt := hinv
              refine lv_iload hx hb dX13_sheet_70 (lv_at hl 0 rfl) ?_
              refine lv_bipush (v := 30) hx hb dX13_sheet_72 (by decide) ?_
              refine lv_icmp_ge (tgt := 109) hx hb dX13_sheet_74 (by decide) (fun c_30 => ?_) (fun c_30 => ?_)
              · rw [fa_le] at c_30
                try rw [ti_30] at c_30
                refine lv_iconst (v := 1) hx hb dX13_sheet_109 (by decide) ?_
                exact W.iret hx hb hr (fun t ht hW => ⟨⟨_, (), rfl, (by first | decide | (unfold sp_sheet; (repeat' split) <;> first | rfl | (exfalso; omega))), by rw [ht]; exact hP.sub [] rfl, hD.sub [] (by decide) rfl⟩, hS.F ht⟩) hS.2.2 dX13_sheet_110
              · rw [fa_le] at c_30
                try rw [ti_30] at c_30
                refine lv_aload_n hx hb dX13_sheet_77 rfl (lv_at hl 1 rfl) ?_
                refine va_get (D := D) (ci := 10) (v := .ref a2) (C := RX13) (T := TX13) (N := 45) hx hb hts in_X13_sheet_X13 hown hE.1 hP 0 rfl rfl 36 (by decide) (hts (.fieldLink RX13 110 "ClauseBookModel" "whole" "[J") (List.mem_of_getElem? (i := 5) rfl)) (fun _ h9 => h9) e0_36 dX13_sheet_78 ?_
                refine lv_bipush (v := 30) hx hb dX13_sheet_81 (by decide) ?_
                refine lv_iload_n hx hb dX13_sheet_83 rfl (lv_at hl 2 rfl) ?_
                refine lv_imul hx hb dX13_sheet_84 ?_
                refine lv_topi (fun z_31 ez_31 => ?_)
                obtain rfl : z_31 = 60 := ez_31.trans (by decide)
                refine lv_iload hx hb dX13_sheet_85 (lv_at hl 0 rfl) ?_
                refine lv_iadd hx hb dX13_sheet_87 ?_
                refine lv_lconst (v := 0) hx hb dX13_sheet_88 (by decide) ?_
                refine va_last hx hb hE.1 hP hD hS 3 1 rfl rfl (by rw [vp_in_iff, fb_addI (by rw [ti_60]; omega) (by rw [ti_60]; omega), ti_60]; omega) dX13_sheet_89 (fun H locs hP hD hS => ?_)
                have hP : va_P D vwCl [(h0, .inr (10, fs0)), (a0, .inl (T 0, 4, .inl (upd f34 2 x2))), (a1, .inl (T 0, 4, .inl (upd f35 2 0))), (a2, .inl (T 1, 120, .inr (.inl (vp_updL f36 ((60 + ii).toNatClampNeg) 0)))), (a3, .inl (T 3, 120, .inr (.inr (.inr (.inl f37)))))] H := hP
                have hD : va_D A [(h0, .inr (10, fs0)), (a0, .inl (T 0, 4, .inl (upd f34 2 x2))), (a1, .inl (T 0, 4, .inl (upd f35 2 0))), (a2, .inl (T 1, 120, .inr (.inl (vp_updL f36 ((60 + ii).toNatClampNeg) 0)))), (a3, .inl (T 3, 120, .inr (.inr (.inr (.inl f37)))))] := hD
                refine lv_aload_n hx hb dX13_sheet_90 rfl (lv_at hl 1 rfl) ?_
                refine va_get (D := D) (ci := 10) (v := .ref a3) (C := RX13) (T := TX13) (N := 45) hx hb hts in_X13_sheet_X13 hown hE.1 hP 0 rfl rfl 37 (by decide) (hts (.fieldLink RX13 113 "ClauseBookModel" "host" "[D") (List.mem_of_getElem? (i := 6) rfl)) (fun _ h9 => h9) e0_37 dX13_sheet_91 ?_
                refine lv_bipush (v := 30) hx hb dX13_sheet_94 (by decide) ?_
                refine lv_iload_n hx hb dX13_sheet_96 rfl (lv_at hl 2 rfl) ?_
                refine lv_imul hx hb dX13_sheet_97 ?_
                refine lv_topi (fun z_32 ez_32 => ?_)
                obtain rfl : z_32 = 60 := ez_32.trans (by decide)
                refine lv_iload hx hb dX13_sheet_98 (lv_at hl 0 rfl) ?_
                refine lv_iadd hx hb dX13_sheet_100 ?_
                refine lv_dconst0 hx hb dX13_sheet_101 ?_
                refine va_dast hx hb hE.1 hP hD hS 4 3 rfl rfl (by rw [vp_in_iff, fb_addI (by rw [ti_60]; omega) (by rw [ti_60]; omega), ti_60]; omega) dX13_sheet_102 (fun H locs hP hD hS => ?_)
                have hP : va_P D vwCl [(h0, .inr (10, fs0)), (a0, .inl (T 0, 4, .inl (upd f34 2 x2))), (a1, .inl (T 0, 4, .inl (upd f35 2 0))), (a2, .inl (T 1, 120, .inr (.inl (vp_updL f36 ((60 + ii).toNatClampNeg) 0)))), (a3, .inl (T 3, 120, .inr (.inr (.inr (.inl (vf_upd f37 ((60 + ii).toNatClampNeg) FP.dconst0))))))] H := hP
                have hD : va_D A [(h0, .inr (10, fs0)), (a0, .inl (T 0, 4, .inl (upd f34 2 x2))), (a1, .inl (T 0, 4, .inl (upd f35 2 0))), (a2, .inl (T 1, 120, .inr (.inl (vp_updL f36 ((60 + ii).toNatClampNeg) 0)))), (a3, .inl (T 3, 120, .inr (.inr (.inr (.inl (vf_upd f37 ((60 + ii).toNatClampNeg) FP.dconst0))))))] := hD
                obtain ⟨z_33, ez_33⟩ : ∃ y : Int32, y = ii + 1 := ⟨_, rfl⟩
                refine lv_iinc (v := z_33) (lv' := [(4, .int z_33), (0, .ref h0), (1, .int 2), (2, .int x2), (3, .int x3)]) hx hb dX13_sheet_103 hl (k := 0) rfl (by rw [ez_33]; rfl) (by decide) rfl (fun ls hl => ?_)
                refine lv_goto (tgt := 70) hx hb dX13_sheet_106 (by decide) ?_
                exact ih (z_33, (vp_updL f36 ((60 + ii).toNatClampNeg) 0), (vf_upd f37 ((60 + ii).toNatClampNeg) FP.dconst0)) ls _ _ ⟨lv_sub hl [0, 1, 2, 3, 4] rfl, hP.sub [0, 1, 2, 3, 4] rfl, hD.sub [0, 1, 2, 3, 4] (by decide) rfl, hS, (by subst_vars; (try dsimp only); rw [inc1 (n := 30) (by omega) (by decide)]; omega)⟩ (by subst_vars; (try dsimp only); rw [inc1 (n := 30) (by omega) (by decide)]; omega)
          · refine lv_aload_n hx hb dX13_sheet_45 rfl (lv_at hl 0 rfl) ?_
            refine va_get (D := D) (ci := 10) (v := .ref a0) (C := RX13) (T := TX13) (N := 45) hx hb hts in_X13_sheet_X13 hown hE.1 hP 0 rfl rfl 34 (by decide) (hts (.fieldLink RX13 104 "ClauseBookModel" "sorts" "[I") (List.mem_of_getElem? (i := 3) rfl)) (fun _ h9 => h9) e0_34 dX13_sheet_46 ?_
            refine lv_iload_n hx hb dX13_sheet_49 rfl (lv_at hl 1 rfl) ?_
            refine lv_iload_n hx hb dX13_sheet_50 rfl (lv_at hl 2 rfl) ?_
            refine va_iast hx hb hE.1 hP hD hS 1 0 rfl rfl (by unfold vp_in; decide) dX13_sheet_51 (fun H locs hP hD hS => ?_)
            have hP : va_P D vwCl [(h0, .inr (10, fs0)), (a0, .inl (T 0, 4, .inl (upd f34 3 x2))), (a1, .inl (T 0, 4, .inl f35)), (a2, .inl (T 1, 120, .inr (.inl f36))), (a3, .inl (T 3, 120, .inr (.inr (.inr (.inl f37)))))] H := hP
            have hD : va_D A [(h0, .inr (10, fs0)), (a0, .inl (T 0, 4, .inl (upd f34 3 x2))), (a1, .inl (T 0, 4, .inl f35)), (a2, .inl (T 1, 120, .inr (.inl f36))), (a3, .inl (T 3, 120, .inr (.inr (.inr (.inl f37)))))] := hD
            refine lv_aload_n hx hb dX13_sheet_52 rfl (lv_at hl 0 rfl) ?_
            refine va_get (D := D) (ci := 10) (v := .ref a1) (C := RX13) (T := TX13) (N := 45) hx hb hts in_X13_sheet_X13 hown hE.1 hP 0 rfl rfl 35 (by decide) (hts (.fieldLink RX13 107 "ClauseBookModel" "sizes" "[I") (List.mem_of_getElem? (i := 4) rfl)) (fun _ h9 => h9) e0_35 dX13_sheet_53 ?_
            refine lv_iload_n hx hb dX13_sheet_56 rfl (lv_at hl 1 rfl) ?_
            refine lv_iload_n hx hb dX13_sheet_57 rfl (lv_at hl 2 rfl) ?_
            refine lv_if_ge (tgt := 65) hx hb dX13_sheet_58 (by decide) (fun c_34 => ?_) (fun c_34 => ?_)
            · rw [fa_le] at c_34
              try rw [ti_0] at c_34
              refine lv_iload_n hx hb dX13_sheet_65 rfl (lv_at hl 3 rfl) ?_
              refine va_iast hx hb hE.1 hP hD hS 2 0 rfl rfl (by unfold vp_in; decide) dX13_sheet_66 (fun H locs hP hD hS => ?_)
              have hP : va_P D vwCl [(h0, .inr (10, fs0)), (a0, .inl (T 0, 4, .inl (upd f34 3 x2))), (a1, .inl (T 0, 4, .inl (upd f35 3 x3))), (a2, .inl (T 1, 120, .inr (.inl f36))), (a3, .inl (T 3, 120, .inr (.inr (.inr (.inl f37)))))] H := hP
              have hD : va_D A [(h0, .inr (10, fs0)), (a0, .inl (T 0, 4, .inl (upd f34 3 x2))), (a1, .inl (T 0, 4, .inl (upd f35 3 x3))), (a2, .inl (T 1, 120, .inr (.inl f36))), (a3, .inl (T 3, 120, .inr (.inr (.inr (.inl f37)))))] := hD
              refine lv_iconst (v := 0) hx hb dX13_sheet_67 (by decide) ?_
              refine lv_istore (lv' := [(4, .int 0), (0, .ref h0), (1, .int 3), (2, .int x2), (3, .int x3)]) hx hb dX13_sheet_68 hl (by decide) rfl (fun ls hl => ?_)
              refine loopW (σ := (Int32) × (Nat → Int64) × (Nat → UInt64)) (fun x9 ls H locs => lv_has ls 5 [(4, .int x9.1), (0, .ref h0), (1, .int 3), (2, .int x2), (3, .int x3)] ∧ va_P D vwCl [(h0, .inr (10, fs0)), (a0, .inl (T 0, 4, .inl (upd f34 3 x2))), (a1, .inl (T 0, 4, .inl (upd f35 3 x3))), (a2, .inl (T 1, 120, .inr (.inl x9.2.1))), (a3, .inl (T 3, 120, .inr (.inr (.inr (.inl x9.2.2)))))] H ∧ va_D A [(h0, .inr (10, fs0)), (a0, .inl (T 0, 4, .inl (upd f34 3 x2))), (a1, .inl (T 0, 4, .inl (upd f35 3 x3))), (a2, .inl (T 1, 120, .inr (.inl x9.2.1))), (a3, .inl (T 3, 120, .inr (.inr (.inr (.inl x9.2.2)))))] ∧ va_S A s.heap H locs ∧ (0 ≤ x9.1.toInt)) (fun x9 => (30 - x9.1.toInt).toNat) (fun x9 ls H locs hI ih => ?_) (0, f36, f37) ls ⟨lv_sub hl [0, 1, 2, 3, 4] rfl, hP.sub [0, 1, 2, 3, 4] rfl, hD.sub [0, 1, 2, 3, 4] (by decide) rfl, hS, (by (try dsimp only); decide)⟩
              obtain ⟨ii, f36, f37⟩ := x9
              obtain ⟨hl, hP, hD, hS, hinv⟩ := hI
              have hl : lv_has ls 5 [(4, .int ii), (0, .ref h0), (1, .int 3), (2, .int x2), (3, .int x3)] := hl
              have hP : va_P D vwCl [(h0, .inr (10, fs0)), (a0, .inl (T 0, 4, .inl (upd f34 3 x2))), (a1, .inl (T 0, 4, .inl (upd f35 3 x3))), (a2, .inl (T 1, 120, .inr (.inl f36))), (a3, .inl (T 3, 120, .inr (.inr (.inr (.inl f37)))))] H := hP
              have hD : va_D A [(h0, .inr (10, fs0)), (a0, .inl (T 0, 4, .inl (upd f34 3 x2))), (a1, .inl (T 0, 4, .inl (upd f35 3 x3))), (a2, .inl (T 1, 120, .inr (.inl f36))), (a3, .inl (T 3, 120, .inr (.inr (.inr (.inl f37)))))] := hD
              have hinv : 0 ≤ ii.toInt := hinv
              refine lv_iload hx hb dX13_sheet_70 (lv_at hl 0 rfl) ?_
              refine lv_bipush (v := 30) hx hb dX13_sheet_72 (by decide) ?_
              refine lv_icmp_ge (tgt := 109) hx hb dX13_sheet_74 (by decide) (fun c_35 => ?_) (fun c_35 => ?_)
              · rw [fa_le] at c_35
                try rw [ti_30] at c_35
                refine lv_iconst (v := 1) hx hb dX13_sheet_109 (by decide) ?_
                exact W.iret hx hb hr (fun t ht hW => ⟨⟨_, (), rfl, (by first | decide | (unfold sp_sheet; (repeat' split) <;> first | rfl | (exfalso; omega))), by rw [ht]; exact hP.sub [] rfl, hD.sub [] (by decide) rfl⟩, hS.F ht⟩) hS.2.2 dX13_sheet_110
              · rw [fa_le] at c_35
                try rw [ti_30] at c_35
                refine lv_aload_n hx hb dX13_sheet_77 rfl (lv_at hl 1 rfl) ?_
                refine va_get (D := D) (ci := 10) (v := .ref a2) (C := RX13) (T := TX13) (N := 45) hx hb hts in_X13_sheet_X13 hown hE.1 hP 0 rfl rfl 36 (by decide) (hts (.fieldLink RX13 110 "ClauseBookModel" "whole" "[J") (List.mem_of_getElem? (i := 5) rfl)) (fun _ h9 => h9) e0_36 dX13_sheet_78 ?_
                refine lv_bipush (v := 30) hx hb dX13_sheet_81 (by decide) ?_
                refine lv_iload_n hx hb dX13_sheet_83 rfl (lv_at hl 2 rfl) ?_
                refine lv_imul hx hb dX13_sheet_84 ?_
                refine lv_topi (fun z_36 ez_36 => ?_)
                obtain rfl : z_36 = 90 := ez_36.trans (by decide)
                refine lv_iload hx hb dX13_sheet_85 (lv_at hl 0 rfl) ?_
                refine lv_iadd hx hb dX13_sheet_87 ?_
                refine lv_lconst (v := 0) hx hb dX13_sheet_88 (by decide) ?_
                refine va_last hx hb hE.1 hP hD hS 3 1 rfl rfl (by rw [vp_in_iff, fb_addI (by rw [ti_90]; omega) (by rw [ti_90]; omega), ti_90]; omega) dX13_sheet_89 (fun H locs hP hD hS => ?_)
                have hP : va_P D vwCl [(h0, .inr (10, fs0)), (a0, .inl (T 0, 4, .inl (upd f34 3 x2))), (a1, .inl (T 0, 4, .inl (upd f35 3 x3))), (a2, .inl (T 1, 120, .inr (.inl (vp_updL f36 ((90 + ii).toNatClampNeg) 0)))), (a3, .inl (T 3, 120, .inr (.inr (.inr (.inl f37)))))] H := hP
                have hD : va_D A [(h0, .inr (10, fs0)), (a0, .inl (T 0, 4, .inl (upd f34 3 x2))), (a1, .inl (T 0, 4, .inl (upd f35 3 x3))), (a2, .inl (T 1, 120, .inr (.inl (vp_updL f36 ((90 + ii).toNatClampNeg) 0)))), (a3, .inl (T 3, 120, .inr (.inr (.inr (.inl f37)))))] := hD
                refine lv_aload_n hx hb dX13_sheet_90 rfl (lv_at hl 1 rfl) ?_
                refine va_get (D := D) (ci := 10) (v := .ref a3) (C := RX13) (T := TX13) (N := 45) hx hb hts in_X13_sheet_X13 hown hE.1 hP 0 rfl rfl 37 (by decide) (hts (.fieldLink RX13 113 "ClauseBookModel" "host" "[D") (List.mem_of_getElem? (i := 6) rfl)) (fun _ h9 => h9) e0_37 dX13_sheet_91 ?_
                refine lv_bipush (v := 30) hx hb dX13_sheet_94 (by decide) ?_
                refine lv_iload_n hx hb dX13_sheet_96 rfl (lv_at hl 2 rfl) ?_
                refine lv_imul hx hb dX13_sheet_97 ?_
                refine lv_topi (fun z_37 ez_37 => ?_)
                obtain rfl : z_37 = 90 := ez_37.trans (by decide)
                refine lv_iload hx hb dX13_sheet_98 (lv_at hl 0 rfl) ?_
                refine lv_iadd hx hb dX13_sheet_100 ?_
                refine lv_dconst0 hx hb dX13_sheet_101 ?_
                refine va_dast hx hb hE.1 hP hD hS 4 3 rfl rfl (by rw [vp_in_iff, fb_addI (by rw [ti_90]; omega) (by rw [ti_90]; omega), ti_90]; omega) dX13_sheet_102 (fun H locs hP hD hS => ?_)
                have hP : va_P D vwCl [(h0, .inr (10, fs0)), (a0, .inl (T 0, 4, .inl (upd f34 3 x2))), (a1, .inl (T 0, 4, .inl (upd f35 3 x3))), (a2, .inl (T 1, 120, .inr (.inl (vp_updL f36 ((90 + ii).toNatClampNeg) 0)))), (a3, .inl (T 3, 120, .inr (.inr (.inr (.inl (vf_upd f37 ((90 + ii).toNatClampNeg) FP.dconst0))))))] H := hP
                have hD : va_D A [(h0, .inr (10, fs0)), (a0, .inl (T 0, 4, .inl (upd f34 3 x2))), (a1, .inl (T 0, 4, .inl (upd f35 3 x3))), (a2, .inl (T 1, 120, .inr (.inl (vp_updL f36 ((90 + ii).toNatClampNeg) 0)))), (a3, .inl (T 3, 120, .inr (.inr (.inr (.inl (vf_upd f37 ((90 + ii).toNatClampNeg) FP.dconst0))))))] := hD
                obtain ⟨z_38, ez_38⟩ : ∃ y : Int32, y = ii + 1 := ⟨_, rfl⟩
                refine lv_iinc (v := z_38) (lv' := [(4, .int z_38), (0, .ref h0), (1, .int 3), (2, .int x2), (3, .int x3)]) hx hb dX13_sheet_103 hl (k := 0) rfl (by rw [ez_38]; rfl) (by decide) rfl (fun ls hl => ?_)
                refine lv_goto (tgt := 70) hx hb dX13_sheet_106 (by decide) ?_
                exact ih (z_38, (vp_updL f36 ((90 + ii).toNatClampNeg) 0), (vf_upd f37 ((90 + ii).toNatClampNeg) FP.dconst0)) ls _ _ ⟨lv_sub hl [0, 1, 2, 3, 4] rfl, hP.sub [0, 1, 2, 3, 4] rfl, hD.sub [0, 1, 2, 3, 4] (by decide) rfl, hS, (by subst_vars; (try dsimp only); rw [inc1 (n := 30) (by omega) (by decide)]; omega)⟩ (by subst_vars; (try dsimp only); rw [inc1 (n := 30) (by omega) (by decide)]; omega)
            · rw [fa_le] at c_34
              try rw [ti_0] at c_34
              refine lv_iconst (v := 0) hx hb dX13_sheet_61 (by decide) ?_
              refine lv_goto (tgt := 66) hx hb dX13_sheet_62 (by decide) ?_
              refine va_iast hx hb hE.1 hP hD hS 2 0 rfl rfl (by unfold vp_in; decide) dX13_sheet_66 (fun H locs hP hD hS => ?_)
              have hP : va_P D vwCl [(h0, .inr (10, fs0)), (a0, .inl (T 0, 4, .inl (upd f34 3 x2))), (a1, .inl (T 0, 4, .inl (upd f35 3 0))), (a2, .inl (T 1, 120, .inr (.inl f36))), (a3, .inl (T 3, 120, .inr (.inr (.inr (.inl f37)))))] H := hP
              have hD : va_D A [(h0, .inr (10, fs0)), (a0, .inl (T 0, 4, .inl (upd f34 3 x2))), (a1, .inl (T 0, 4, .inl (upd f35 3 0))), (a2, .inl (T 1, 120, .inr (.inl f36))), (a3, .inl (T 3, 120, .inr (.inr (.inr (.inl f37)))))] := hD
              refine lv_iconst (v := 0) hx hb dX13_sheet_67 (by decide) ?_
              refine lv_istore (lv' := [(4, .int 0), (0, .ref h0), (1, .int 3), (2, .int x2), (3, .int x3)]) hx hb dX13_sheet_68 hl (by decide) rfl (fun ls hl => ?_)
              refine loopW (σ := (Int32) × (Nat → Int64) × (Nat → UInt64)) (fun x9 ls H locs => lv_has ls 5 [(4, .int x9.1), (0, .ref h0), (1, .int 3), (2, .int x2), (3, .int x3)] ∧ va_P D vwCl [(h0, .inr (10, fs0)), (a0, .inl (T 0, 4, .inl (upd f34 3 x2))), (a1, .inl (T 0, 4, .inl (upd f35 3 0))), (a2, .inl (T 1, 120, .inr (.inl x9.2.1))), (a3, .inl (T 3, 120, .inr (.inr (.inr (.inl x9.2.2)))))] H ∧ va_D A [(h0, .inr (10, fs0)), (a0, .inl (T 0, 4, .inl (upd f34 3 x2))), (a1, .inl (T 0, 4, .inl (upd f35 3 0))), (a2, .inl (T 1, 120, .inr (.inl x9.2.1))), (a3, .inl (T 3, 120, .inr (.inr (.inr (.inl x9.2.2)))))] ∧ va_S A s.heap H locs ∧ (0 ≤ x9.1.toInt)) (fun x9 => (30 - x9.1.toInt).toNat) (fun x9 ls H locs hI ih => ?_) (0, f36, f37) ls ⟨lv_sub hl [0, 1, 2, 3, 4] rfl, hP.sub [0, 1, 2, 3, 4] rfl, hD.sub [0, 1, 2, 3, 4] (by decide) rfl, hS, (by (try dsimp only); decide)⟩
              obtain ⟨ii, f36, f37⟩ := x9
              obtain ⟨hl, hP, hD, hS, hinv⟩ := hI
              have hl : lv_has ls 5 [(4, .int ii), (0, .ref h0), (1, .int 3), (2, .int x2), (3, .int x3)] := hl
              have hP : va_P D vwCl [(h0, .inr (10, fs0)), (a0, .inl (T 0, 4, .inl (upd f34 3 x2))), (a1, .inl (T 0, 4, .inl (upd f35 3 0))), (a2, .inl (T 1, 120, .inr (.inl f36))), (a3, .inl (T 3, 120, .inr (.inr (.inr (.inl f37)))))] H := hP
              have hD : va_D A [(h0, .inr (10, fs0)), (a0, .inl (T 0, 4, .inl (upd f34 3 x2))), (a1, .inl (T 0, 4, .inl (upd f35 3 0))), (a2, .inl (T 1, 120, .inr (.inl f36))), (a3, .inl (T 3, 120, .inr (.inr (.inr (.inl f37)))))] := hD
              have hinv : 0 ≤ ii.toInt := hinv
              refine lv_iload hx hb dX13_sheet_70 (lv_at hl 0 rfl) ?_
              refine lv_bipush (v := 30) hx hb dX13_sheet_72 (by decide) ?_
              refine lv_icmp_ge (tgt := 109) hx hb dX13_sheet_74 (by decide) (fun c_39 => ?_) (fun c_39 => ?_)
              · rw [fa_le] at c_39
                try rw [ti_30] at c_39
                refine lv_iconst (v := 1) hx hb dX13_sheet_109 (by decide) ?_
                exact W.iret hx hb hr (fun t ht hW => ⟨⟨_, (), rfl, (by first | decide | (unfold sp_sheet; (repeat' split) <;> first | rfl | (exfalso; omega))), by rw [ht]; exact hP.sub [] rfl, hD.sub [] (by decide) rfl⟩, hS.F ht⟩) hS.2.2 dX13_sheet_110
              · rw [fa_le] at c_39
                try rw [ti_30] at c_39
                refine lv_aload_n hx hb dX13_sheet_77 rfl (lv_at hl 1 rfl) ?_
                refine va_get (D := D) (ci := 10) (v := .ref a2) (C := RX13) (T := TX13) (N := 45) hx hb hts in_X13_sheet_X13 hown hE.1 hP 0 rfl rfl 36 (by decide) (hts (.fieldLink RX13 110 "ClauseBookModel" "whole" "[J") (List.mem_of_getElem? (i := 5) rfl)) (fun _ h9 => h9) e0_36 dX13_sheet_78 ?_
                refine lv_bipush (v := 30) hx hb dX13_sheet_81 (by decide) ?_
                refine lv_iload_n hx hb dX13_sheet_83 rfl (lv_at hl 2 rfl) ?_
                refine lv_imul hx hb dX13_sheet_84 ?_
                refine lv_topi (fun z_40 ez_40 => ?_)
                obtain rfl : z_40 = 90 := ez_40.trans (by decide)
                refine lv_iload hx hb dX13_sheet_85 (lv_at hl 0 rfl) ?_
                refine lv_iadd hx hb dX13_sheet_87 ?_
                refine lv_lconst (v := 0) hx hb dX13_sheet_88 (by decide) ?_
                refine va_last hx hb hE.1 hP hD hS 3 1 rfl rfl (by rw [vp_in_iff, fb_addI (by rw [ti_90]; omega) (by rw [ti_90]; omega), ti_90]; omega) dX13_sheet_89 (fun H locs hP hD hS => ?_)
                have hP : va_P D vwCl [(h0, .inr (10, fs0)), (a0, .inl (T 0, 4, .inl (upd f34 3 x2))), (a1, .inl (T 0, 4, .inl (upd f35 3 0))), (a2, .inl (T 1, 120, .inr (.inl (vp_updL f36 ((90 + ii).toNatClampNeg) 0)))), (a3, .inl (T 3, 120, .inr (.inr (.inr (.inl f37)))))] H := hP
                have hD : va_D A [(h0, .inr (10, fs0)), (a0, .inl (T 0, 4, .inl (upd f34 3 x2))), (a1, .inl (T 0, 4, .inl (upd f35 3 0))), (a2, .inl (T 1, 120, .inr (.inl (vp_updL f36 ((90 + ii).toNatClampNeg) 0)))), (a3, .inl (T 3, 120, .inr (.inr (.inr (.inl f37)))))] := hD
                refine lv_aload_n hx hb dX13_sheet_90 rfl (lv_at hl 1 rfl) ?_
                refine va_get (D := D) (ci := 10) (v := .ref a3) (C := RX13) (T := TX13) (N := 45) hx hb hts in_X13_sheet_X13 hown hE.1 hP 0 rfl rfl 37 (by decide) (hts (.fieldLink RX13 113 "ClauseBookModel" "host" "[D") (List.mem_of_getElem? (i := 6) rfl)) (fun _ h9 => h9) e0_37 dX13_sheet_91 ?_
                refine lv_bipush (v := 30) hx hb dX13_sheet_94 (by decide) ?_
                refine lv_iload_n hx hb dX13_sheet_96 rfl (lv_at hl 2 rfl) ?_
                refine lv_imul hx hb dX13_sheet_97 ?_
                refine lv_topi (fun z_41 ez_41 => ?_)
                obtain rfl : z_41 = 90 := ez_41.trans (by decide)
                refine lv_iload hx hb dX13_sheet_98 (lv_at hl 0 rfl) ?_
                refine lv_iadd hx hb dX13_sheet_100 ?_
                refine lv_dconst0 hx hb dX13_sheet_101 ?_
                refine va_dast hx hb hE.1 hP hD hS 4 3 rfl rfl (by rw [vp_in_iff, fb_addI (by rw [ti_90]; omega) (by rw [ti_90]; omega), ti_90]; omega) dX13_sheet_102 (fun H locs hP hD hS => ?_)
                have hP : va_P D vwCl [(h0, .inr (10, fs0)), (a0, .inl (T 0, 4, .inl (upd f34 3 x2))), (a1, .inl (T 0, 4, .inl (upd f35 3 0))), (a2, .inl (T 1, 120, .inr (.inl (vp_updL f36 ((90 + ii).toNatClampNeg) 0)))), (a3, .inl (T 3, 120, .inr (.inr (.inr (.inl (vf_upd f37 ((90 + ii).toNatClampNeg) FP.dconst0))))))] H := hP
                have hD : va_D A [(h0, .inr (10, fs0)), (a0, .inl (T 0, 4, .inl (upd f34 3 x2))), (a1, .inl (T 0, 4, .inl (upd f35 3 0))), (a2, .inl (T 1, 120, .inr (.inl (vp_updL f36 ((90 + ii).toNatClampNeg) 0)))), (a3, .inl (T 3, 120, .inr (.inr (.inr (.inl (vf_upd f37 ((90 + ii).toNatClampNeg) FP.dconst0))))))] := hD
                obtain ⟨z_42, ez_42⟩ : ∃ y : Int32, y = ii + 1 := ⟨_, rfl⟩
                refine lv_iinc (v := z_42) (lv' := [(4, .int z_42), (0, .ref h0), (1, .int 3), (2, .int x2), (3, .int x3)]) hx hb dX13_sheet_103 hl (k := 0) rfl (by rw [ez_42]; rfl) (by decide) rfl (fun ls hl => ?_)
                refine lv_goto (tgt := 70) hx hb dX13_sheet_106 (by decide) ?_
                exact ih (z_42, (vp_updL f36 ((90 + ii).toNatClampNeg) 0), (vf_upd f37 ((90 + ii).toNatClampNeg) FP.dconst0)) ls _ _ ⟨lv_sub hl [0, 1, 2, 3, 4] rfl, hP.sub [0, 1, 2, 3, 4] rfl, hD.sub [0, 1, 2, 3, 4] (by decide) rfl, hS, (by subst_vars; (try dsimp only); rw [inc1 (n := 30) (by omega) (by decide)]; omega)⟩ (by subst_vars; (try dsimp only); rw [inc1 (n := 30) (by omega) (by decide)]; omega)
        · rw [fa_lt] at c_6
          try rw [ti_0] at c_6
          refine lv_iload_n hx hb dX13_sheet_38 rfl (lv_at hl 3 rfl) ?_
          refine lv_if_ge (tgt := 45) hx hb dX13_sheet_39 (by decide) (fun c_43 => ?_) (fun c_43 => ?_)
          · rw [fa_le] at c_43
            try rw [ti_0] at c_43
            rcases in4 (x := x1) (by omega) with rfl | rfl | rfl | rfl
            · refine lv_aload_n hx hb dX13_sheet_45 rfl (lv_at hl 0 rfl) ?_
              refine va_get (D := D) (ci := 10) (v := .ref a0) (C := RX13) (T := TX13) (N := 45) hx hb hts in_X13_sheet_X13 hown hE.1 hP 0 rfl rfl 34 (by decide) (hts (.fieldLink RX13 104 "ClauseBookModel" "sorts" "[I") (List.mem_of_getElem? (i := 3) rfl)) (fun _ h9 => h9) e0_34 dX13_sheet_46 ?_
              refine lv_iload_n hx hb dX13_sheet_49 rfl (lv_at hl 1 rfl) ?_
              refine lv_iload_n hx hb dX13_sheet_50 rfl (lv_at hl 2 rfl) ?_
              refine va_iast hx hb hE.1 hP hD hS 1 0 rfl rfl (by unfold vp_in; decide) dX13_sheet_51 (fun H locs hP hD hS => ?_)
              have hP : va_P D vwCl [(h0, .inr (10, fs0)), (a0, .inl (T 0, 4, .inl (upd f34 0 x2))), (a1, .inl (T 0, 4, .inl f35)), (a2, .inl (T 1, 120, .inr (.inl f36))), (a3, .inl (T 3, 120, .inr (.inr (.inr (.inl f37)))))] H := hP
              have hD : va_D A [(h0, .inr (10, fs0)), (a0, .inl (T 0, 4, .inl (upd f34 0 x2))), (a1, .inl (T 0, 4, .inl f35)), (a2, .inl (T 1, 120, .inr (.inl f36))), (a3, .inl (T 3, 120, .inr (.inr (.inr (.inl f37)))))] := hD
              refine lv_aload_n hx hb dX13_sheet_52 rfl (lv_at hl 0 rfl) ?_
              refine va_get (D := D) (ci := 10) (v := .ref a1) (C := RX13) (T := TX13) (N := 45) hx hb hts in_X13_sheet_X13 hown hE.1 hP 0 rfl rfl 35 (by decide) (hts (.fieldLink RX13 107 "ClauseBookModel" "sizes" "[I") (List.mem_of_getElem? (i := 4) rfl)) (fun _ h9 => h9) e0_35 dX13_sheet_53 ?_
              refine lv_iload_n hx hb dX13_sheet_56 rfl (lv_at hl 1 rfl) ?_
              refine lv_iload_n hx hb dX13_sheet_57 rfl (lv_at hl 2 rfl) ?_
              refine lv_if_ge (tgt := 65) hx hb dX13_sheet_58 (by decide) (fun c_44 => ?_) (fun c_44 => ?_)
              · rw [fa_le] at c_44
                try rw [ti_0] at c_44
                refine lv_iload_n hx hb dX13_sheet_65 rfl (lv_at hl 3 rfl) ?_
                refine va_iast hx hb hE.1 hP hD hS 2 0 rfl rfl (by unfold vp_in; decide) dX13_sheet_66 (fun H locs hP hD hS => ?_)
                have hP : va_P D vwCl [(h0, .inr (10, fs0)), (a0, .inl (T 0, 4, .inl (upd f34 0 x2))), (a1, .inl (T 0, 4, .inl (upd f35 0 x3))), (a2, .inl (T 1, 120, .inr (.inl f36))), (a3, .inl (T 3, 120, .inr (.inr (.inr (.inl f37)))))] H := hP
                have hD : va_D A [(h0, .inr (10, fs0)), (a0, .inl (T 0, 4, .inl (upd f34 0 x2))), (a1, .inl (T 0, 4, .inl (upd f35 0 x3))), (a2, .inl (T 1, 120, .inr (.inl f36))), (a3, .inl (T 3, 120, .inr (.inr (.inr (.inl f37)))))] := hD
                refine lv_iconst (v := 0) hx hb dX13_sheet_67 (by decide) ?_
                refine lv_istore (lv' := [(4, .int 0), (0, .ref h0), (1, .int 0), (2, .int x2), (3, .int x3)]) hx hb dX13_sheet_68 hl (by decide) rfl (fun ls hl => ?_)
                refine loopW (σ := (Int32) × (Nat → Int64) × (Nat → UInt64)) (fun x9 ls H locs => lv_has ls 5 [(4, .int x9.1), (0, .ref h0), (1, .int 0), (2, .int x2), (3, .int x3)] ∧ va_P D vwCl [(h0, .inr (10, fs0)), (a0, .inl (T 0, 4, .inl (upd f34 0 x2))), (a1, .inl (T 0, 4, .inl (upd f35 0 x3))), (a2, .inl (T 1, 120, .inr (.inl x9.2.1))), (a3, .inl (T 3, 120, .inr (.inr (.inr (.inl x9.2.2)))))] H ∧ va_D A [(h0, .inr (10, fs0)), (a0, .inl (T 0, 4, .inl (upd f34 0 x2))), (a1, .inl (T 0, 4, .inl (upd f35 0 x3))), (a2, .inl (T 1, 120, .inr (.inl x9.2.1))), (a3, .inl (T 3, 120, .inr (.inr (.inr (.inl x9.2.2)))))] ∧ va_S A s.heap H locs ∧ (0 ≤ x9.1.toInt)) (fun x9 => (30 - x9.1.toInt).toNat) (fun x9 ls H locs hI ih => ?_) (0, f36, f37) ls ⟨lv_sub hl [0, 1, 2, 3, 4] rfl, hP.sub [0, 1, 2, 3, 4] rfl, hD.sub [0, 1, 2, 3, 4] (by decide) rfl, hS, (by (try dsimp only); decide)⟩
                obtain ⟨ii, f36, f37⟩ := x9
                obtain ⟨hl, hP, hD, hS, hinv⟩ := hI
                have hl : lv_has ls 5 [(4, .int ii), (0, .ref h0), (1, .int 0), (2, .int x2), (3, .int x3)] := hl
                have hP : va_P D vwCl [(h0, .inr (10, fs0)), (a0, .inl (T 0, 4, .inl (upd f34 0 x2))), (a1, .inl (T 0, 4, .inl (upd f35 0 x3))), (a2, .inl (T 1, 120, .inr (.inl f36))), (a3, .inl (T 3, 120, .inr (.inr (.inr (.inl f37)))))] H := hP
                have hD : va_D A [(h0, .inr (10, fs0)), (a0, .inl (T 0, 4, .inl (upd f34 0 x2))), (a1, .inl (T 0, 4, .inl (upd f35 0 x3))), (a2, .inl (T 1, 120, .inr (.inl f36))), (a3, .inl (T 3, 120, .inr (.inr (.inr (.inl f37)))))] := hD
                have hinv : 0 ≤ ii.toInt := hinv
                refine lv_iload hx hb dX13_sheet_70 (lv_at hl 0 rfl) ?_
                refine lv_bipush (v := 30) hx hb dX13_sheet_72 (by decide) ?_
                refine lv_icmp_ge (tgt := 109) hx hb dX13_sheet_74 (by decide) (fun c_45 => ?_) (fun c_45 => ?_)
                · rw [fa_le] at c_45
                  try rw [ti_30] at c_45
                  refine lv_iconst (v := 1) hx hb dX13_sheet_109 (by decide) ?_
                  exact W.iret hx hb hr (fun t ht hW => ⟨⟨_, (), rfl, (by first | decide | (unfold sp_sheet; (repeat' split) <;> first | rfl | (exfalso; omega))), by rw [ht]; exact hP.sub [] rfl, hD.sub [] (by decide) rfl⟩, hS.F ht⟩) hS.2.2 dX13_sheet_110
                · rw [fa_le] at c_45
                  try rw [ti_30] at c_45
                  refine lv_aload_n hx hb dX13_sheet_77 rfl (lv_at hl 1 rfl) ?_
                  refine va_get (D := D) (ci := 10) (v := .ref a2) (C := RX13) (T := TX13) (N := 45) hx hb hts in_X13_sheet_X13 hown hE.1 hP 0 rfl rfl 36 (by decide) (hts (.fieldLink RX13 110 "ClauseBookModel" "whole" "[J") (List.mem_of_getElem? (i := 5) rfl)) (fun _ h9 => h9) e0_36 dX13_sheet_78 ?_
                  refine lv_bipush (v := 30) hx hb dX13_sheet_81 (by decide) ?_
                  refine lv_iload_n hx hb dX13_sheet_83 rfl (lv_at hl 2 rfl) ?_
                  refine lv_imul hx hb dX13_sheet_84 ?_
                  refine lv_topi (fun z_46 ez_46 => ?_)
                  obtain rfl : z_46 = 0 := ez_46.trans (by decide)
                  refine lv_iload hx hb dX13_sheet_85 (lv_at hl 0 rfl) ?_
                  refine lv_iadd hx hb dX13_sheet_87 ?_
                  refine lv_lconst (v := 0) hx hb dX13_sheet_88 (by decide) ?_
                  refine va_last hx hb hE.1 hP hD hS 3 1 rfl rfl (by rw [vp_in_iff, fb_addI (by rw [ti_0]; omega) (by rw [ti_0]; omega), ti_0]; omega) dX13_sheet_89 (fun H locs hP hD hS => ?_)
                  have hP : va_P D vwCl [(h0, .inr (10, fs0)), (a0, .inl (T 0, 4, .inl (upd f34 0 x2))), (a1, .inl (T 0, 4, .inl (upd f35 0 x3))), (a2, .inl (T 1, 120, .inr (.inl (vp_updL f36 ((0 + ii).toNatClampNeg) 0)))), (a3, .inl (T 3, 120, .inr (.inr (.inr (.inl f37)))))] H := hP
                  have hD : va_D A [(h0, .inr (10, fs0)), (a0, .inl (T 0, 4, .inl (upd f34 0 x2))), (a1, .inl (T 0, 4, .inl (upd f35 0 x3))), (a2, .inl (T 1, 120, .inr (.inl (vp_updL f36 ((0 + ii).toNatClampNeg) 0)))), (a3, .inl (T 3, 120, .inr (.inr (.inr (.inl f37)))))] := hD
                  refine lv_aload_n hx hb dX13_sheet_90 rfl (lv_at hl 1 rfl) ?_
                  refine va_get (D := D) (ci := 10) (v := .ref a3) (C := RX13) (T := TX13) (N := 45) hx hb hts in_X13_sheet_X13 hown hE.1 hP 0 rfl rfl 37 (by decide) (hts (.fieldLink RX13 113 "ClauseBookModel" "host" "[D") (List.mem_of_getElem? (i := 6) rfl)) (fun _ h9 => h9) e0_37 dX13_sheet_91 ?_
                  refine lv_bipush (v := 30) hx hb dX13_sheet_94 (by decide) ?_
                  refine lv_iload_n hx hb dX13_sheet_96 rfl (lv_at hl 2 rfl) ?_
                  refine lv_imul hx hb dX13_sheet_97 ?_
                  refine lv_topi (fun z_47 ez_47 => ?_)
                  obtain rfl : z_47 = 0 := ez_47.trans (by decide)
                  refine lv_iload hx hb dX13_sheet_98 (lv_at hl 0 rfl) ?_
                  refine lv_iadd hx hb dX13_sheet_100 ?_
                  refine lv_dconst0 hx hb dX13_sheet_101 ?_
                  refine va_dast hx hb hE.1 hP hD hS 4 3 rfl rfl (by rw [vp_in_iff, fb_addI (by rw [ti_0]; omega) (by rw [ti_0]; omega), ti_0]; omega) dX13_sheet_102 (fun H locs hP hD hS => ?_)
                  have hP : va_P D vwCl [(h0, .inr (10, fs0)), (a0, .inl (T 0, 4, .inl (upd f34 0 x2))), (a1, .inl (T 0, 4, .inl (upd f35 0 x3))), (a2, .inl (T 1, 120, .inr (.inl (vp_updL f36 ((0 + ii).toNatClampNeg) 0)))), (a3, .inl (T 3, 120, .inr (.inr (.inr (.inl (vf_upd f37 ((0 + ii).toNatClampNeg) FP.dconst0))))))] H := hP
                  have hD : va_D A [(h0, .inr (10, fs0)), (a0, .inl (T 0, 4, .inl (upd f34 0 x2))), (a1, .inl (T 0, 4, .inl (upd f35 0 x3))), (a2, .inl (T 1, 120, .inr (.inl (vp_updL f36 ((0 + ii).toNatClampNeg) 0)))), (a3, .inl (T 3, 120, .inr (.inr (.inr (.inl (vf_upd f37 ((0 + ii).toNatClampNeg) FP.dconst0))))))] := hD
                  obtain ⟨z_48, ez_48⟩ : ∃ y : Int32, y = ii + 1 := ⟨_, rfl⟩
                  refine lv_iinc (v := z_48) (lv' := [(4, .int z_48), (0, .ref h0), (1, .int 0), (2, .int x2), (3, .int x3)]) hx hb dX13_sheet_103 hl (k := 0) rfl (by rw [ez_48]; rfl) (by decide) rfl (fun ls hl => ?_)
                  refine lv_goto (tgt := 70) hx hb dX13_sheet_106 (by decide) ?_
                  exact ih (z_48, (vp_updL f36 ((0 + ii).toNatClampNeg) 0), (vf_upd f37 ((0 + ii).toNatClampNeg) FP.dconst0)) ls _ _ ⟨lv_sub hl [0, 1, 2, 3, 4] rfl, hP.sub [0, 1, 2, 3, 4] rfl, hD.sub [0, 1, 2, 3, 4] (by decide) rfl, hS, (by subst_vars; (try dsimp only); rw [inc1 (n := 30) (by omega) (by decide)]; omega)⟩ (by subst_vars; (try dsimp only); rw [inc1 (n := 30) (by omega) (by decide)]; omega)
              · rw [fa_le] at c_44
                try rw [ti_0] at c_44
                refine lv_iconst (v := 0) hx hb dX13_sheet_61 (by decide) ?_
                refine lv_goto (tgt := 66) hx hb dX13_sheet_62 (by decide) ?_
                refine va_iast hx hb hE.1 hP hD hS 2 0 rfl rfl (by unfold vp_in; decide) dX13_sheet_66 (fun H locs hP hD hS => ?_)
                have hP : va_P D vwCl [(h0, .inr (10, fs0)), (a0, .inl (T 0, 4, .inl (upd f34 0 x2))), (a1, .inl (T 0, 4, .inl (upd f35 0 0))), (a2, .inl (T 1, 120, .inr (.inl f36))), (a3, .inl (T 3, 120, .inr (.inr (.inr (.inl f37)))))] H := hP
                have hD : va_D A [(h0, .inr (10, fs0)), (a0, .inl (T 0, 4, .inl (upd f34 0 x2))), (a1, .inl (T 0, 4, .inl (upd f35 0 0))), (a2, .inl (T 1, 120, .inr (.inl f36))), (a3, .inl (T 3, 120, .inr (.inr (.inr (.inl f37)))))] := hD
                refine lv_iconst (v := 0) hx hb dX13_sheet_67 (by decide) ?_
                refine lv_istore (lv' := [(4, .int 0), (0, .ref h0), (1, .int 0), (2, .int x2), (3, .int x3)]) hx hb dX13_sheet_68 hl (by decide) rfl (fun ls hl => ?_)
                refine loopW (σ := (Int32) × (Nat → Int64) × (Nat → UInt64)) (fun x9 ls H locs => lv_has ls 5 [(4, .int x9.1), (0, .ref h0), (1, .int 0), (2, .int x2), (3, .int x3)] ∧ va_P D vwCl [(h0, .inr (10, fs0)), (a0, .inl (T 0, 4, .inl (upd f34 0 x2))), (a1, .inl (T 0, 4, .inl (upd f35 0 0))), (a2, .inl (T 1, 120, .inr (.inl x9.2.1))), (a3, .inl (T 3, 120, .inr (.inr (.inr (.inl x9.2.2)))))] H ∧ va_D A [(h0, .inr (10, fs0)), (a0, .inl (T 0, 4, .inl (upd f34 0 x2))), (a1, .inl (T 0, 4, .inl (upd f35 0 0))), (a2, .inl (T 1, 120, .inr (.inl x9.2.1))), (a3, .inl (T 3, 120, .inr (.inr (.inr (.inl x9.2.2)))))] ∧ va_S A s.heap H locs ∧ (0 ≤ x9.1.toInt)) (fun x9 => (30 - x9.1.toInt).toNat) (fun x9 ls H locs hI ih => ?_) (0, f36, f37) ls ⟨lv_sub hl [0, 1, 2, 3, 4] rfl, hP.sub [0, 1, 2, 3, 4] rfl, hD.sub [0, 1, 2, 3, 4] (by decide) rfl, hS, (by (try dsimp only); decide)⟩
                obtain ⟨ii, f36, f37⟩ := x9
                obtain ⟨hl, hP, hD, hS, hinv⟩ := hI
                have hl : lv_has ls 5 [(4, .int ii), (0, .ref h0), (1, .int 0), (2, .int x2), (3, .int x3)] := hl
                have hP : va_P D vwCl [(h0, .inr (10, fs0)), (a0, .inl (T 0, 4, .inl (upd f34 0 x2))), (a1, .inl (T 0, 4, .inl (upd f35 0 0))), (a2, .inl (T 1, 120, .inr (.inl f36))), (a3, .inl (T 3, 120, .inr (.inr (.inr (.inl f37)))))] H := hP
                have hD : va_D A [(h0, .inr (10, fs0)), (a0, .inl (T 0, 4, .inl (upd f34 0 x2))), (a1, .inl (T 0, 4, .inl (upd f35 0 0))), (a2, .inl (T 1, 120, .inr (.inl f36))), (a3, .inl (T 3, 120, .inr (.inr (.inr (.inl f37)))))] := hD
                have hinv : 0 ≤ ii.toInt := hinv
                refine lv_iload hx hb dX13_sheet_70 (lv_at hl 0 rfl) ?_
                refine lv_bipush (v := 30) hx hb dX13_sheet_72 (by decide) ?_
                refine lv_icmp_ge (tgt := 109) hx hb dX13_sheet_74 (by decide) (fun c_49 => ?_) (fun c_49 => ?_)
                · rw [fa_le] at c_49
                  try rw [ti_30] at c_49
                  refine lv_iconst (v := 1) hx hb dX13_sheet_109 (by decide) ?_
                  exact W.iret hx hb hr (fun t ht hW => ⟨⟨_, (), rfl, (by first | decide | (unfold sp_sheet; (repeat' split) <;> first | rfl | (exfalso; omega))), by rw [ht]; exact hP.sub [] rfl, hD.sub [] (by decide) rfl⟩, hS.F ht⟩) hS.2.2 dX13_sheet_110
                · rw [fa_le] at c_49
                  try rw [ti_30] at c_49
                  refine lv_aload_n hx hb dX13_sheet_77 rfl (lv_at hl 1 rfl) ?_
                  refine va_get (D := D) (ci := 10) (v := .ref a2) (C := RX13) (T := TX13) (N := 45) hx hb hts in_X13_sheet_X13 hown hE.1 hP 0 rfl rfl 36 (by decide) (hts (.fieldLink RX13 110 "ClauseBookModel" "whole" "[J") (List.mem_of_getElem? (i := 5) rfl)) (fun _ h9 => h9) e0_36 dX13_sheet_78 ?_
                  refine lv_bipush (v := 30) hx hb dX13_sheet_81 (by decide) ?_
                  refine lv_iload_n hx hb dX13_sheet_83 rfl (lv_at hl 2 rfl) ?_
                  refine lv_imul hx hb dX13_sheet_84 ?_
                  refine lv_topi (fun z_50 ez_50 => ?_)
                  obtain rfl : z_50 = 0 := ez_50.trans (by decide)
                  refine lv_iload hx hb dX13_sheet_85 (lv_at hl 0 rfl) ?_
                  refine lv_iadd hx hb dX13_sheet_87 ?_
                  refine lv_lconst (v := 0) hx hb dX13_sheet_88 (by decide) ?_
                  refine va_last hx hb hE.1 hP hD hS 3 1 rfl rfl (by rw [vp_in_iff, fb_addI (by rw [ti_0]; omega) (by rw [ti_0]; omega), ti_0]; omega) dX13_sheet_89 (fun H locs hP hD hS => ?_)
                  have hP : va_P D vwCl [(h0, .inr (10, fs0)), (a0, .inl (T 0, 4, .inl (upd f34 0 x2))), (a1, .inl (T 0, 4, .inl (upd f35 0 0))), (a2, .inl (T 1, 120, .inr (.inl (vp_updL f36 ((0 + ii).toNatClampNeg) 0)))), (a3, .inl (T 3, 120, .inr (.inr (.inr (.inl f37)))))] H := hP
                  have hD : va_D A [(h0, .inr (10, fs0)), (a0, .inl (T 0, 4, .inl (upd f34 0 x2))), (a1, .inl (T 0, 4, .inl (upd f35 0 0))), (a2, .inl (T 1, 120, .inr (.inl (vp_updL f36 ((0 + ii).toNatClampNeg) 0)))), (a3, .inl (T 3, 120, .inr (.inr (.inr (.inl f37)))))] := hD
                  refine lv_aload_n hx hb dX13_sheet_90 rfl (lv_at hl 1 rfl) ?_
                  refine va_get (D := D) (ci := 10) (v := .ref a3) (C := RX13) (T := TX13) (N := 45) hx hb hts in_X13_sheet_X13 hown hE.1 hP 0 rfl rfl 37 (by decide) (hts (.fieldLink RX13 113 "ClauseBookModel" "host" "[D") (List.mem_of_getElem? (i := 6) rfl)) (fun _ h9 => h9) e0_37 dX13_sheet_91 ?_
                  refine lv_bipush (v := 30) hx hb dX13_sheet_94 (by decide) ?_
                  refine lv_iload_n hx hb dX13_sheet_96 rfl (lv_at hl 2 rfl) ?_
                  refine lv_imul hx hb dX13_sheet_97 ?_
                  refine lv_topi (fun z_51 ez_51 => ?_)
                  obtain rfl : z_51 = 0 := ez_51.trans (by decide)
                  refine lv_iload hx hb dX13_sheet_98 (lv_at hl 0 rfl) ?_
                  refine lv_iadd hx hb dX13_sheet_100 ?_
                  refine lv_dconst0 hx hb dX13_sheet_101 ?_
                  refine va_dast hx hb hE.1 hP hD hS 4 3 rfl rfl (by rw [vp_in_iff, fb_addI (by rw [ti_0]; omega) (by rw [ti_0]; omega), ti_0]; omega) dX13_sheet_102 (fun H locs hP hD hS => ?_)
                  have hP : va_P D vwCl [(h0, .inr (10, fs0)), (a0, .inl (T 0, 4, .inl (upd f34 0 x2))), (a1, .inl (T 0, 4, .inl (upd f35 0 0))), (a2, .inl (T 1, 120, .inr (.inl (vp_updL f36 ((0 + ii).toNatClampNeg) 0)))), (a3, .inl (T 3, 120, .inr (.inr (.inr (.inl (vf_upd f37 ((0 + ii).toNatClampNeg) FP.dconst0))))))] H := hP
                  have hD : va_D A [(h0, .inr (10, fs0)), (a0, .inl (T 0, 4, .inl (upd f34 0 x2))), (a1, .inl (T 0, 4, .inl (upd f35 0 0))), (a2, .inl (T 1, 120, .inr (.inl (vp_updL f36 ((0 + ii).toNatClampNeg) 0)))), (a3, .inl (T 3, 120, .inr (.inr (.inr (.inl (vf_upd f37 ((0 + ii).toNatClampNeg) FP.dconst0))))))] := hD
                  obtain ⟨z_52, ez_52⟩ : ∃ y : Int32, y = ii + 1 := ⟨_, rfl⟩
                  refine lv_iinc (v := z_52) (lv' := [(4, .int z_52), (0, .ref h0), (1, .int 0), (2, .int x2), (3, .int x3)]) hx hb dX13_sheet_103 hl (k := 0) rfl (by rw [ez_52]; rfl) (by decide) rfl (fun ls hl => ?_)
                  refine lv_goto (tgt := 70) hx hb dX13_sheet_106 (by decide) ?_
                  exact ih (z_52, (vp_updL f36 ((0 + ii).toNatClampNeg) 0), (vf_upd f37 ((0 + ii).toNatClampNeg) FP.dconst0)) ls _ _ ⟨lv_sub hl [0, 1, 2, 3, 4] rfl, hP.sub [0, 1, 2, 3, 4] rfl, hD.sub [0, 1, 2, 3, 4] (by decide) rfl, hS, (by subst_vars; (try dsimp only); rw [inc1 (n := 30) (by omega) (by decide)]; omega)⟩ (by subst_vars; (try dsimp only); rw [inc1 (n := 30) (by omega) (by decide)]; omega)
            · refine lv_aload_n hx hb dX13_sheet_45 rfl (lv_at hl 0 rfl) ?_
              refine va_get (D := D) (ci := 10) (v := .ref a0) (C := RX13) (T := TX13) (N := 45) hx hb hts in_X13_sheet_X13 hown hE.1 hP 0 rfl rfl 34 (by decide) (hts (.fieldLink RX13 104 "ClauseBookModel" "sorts" "[I") (List.mem_of_getElem? (i := 3) rfl)) (fun _ h9 => h9) e0_34 dX13_sheet_46 ?_
              refine lv_iload_n hx hb dX13_sheet_49 rfl (lv_at hl 1 rfl) ?_
              refine lv_iload_n hx hb dX13_sheet_50 rfl (lv_at hl 2 rfl) ?_
              refine va_iast hx hb hE.1 hP hD hS 1 0 rfl rfl (by unfold vp_in; decide) dX13_sheet_51 (fun H locs hP hD hS => ?_)
              have hP : va_P D vwCl [(h0, .inr (10, fs0)), (a0, .inl (T 0, 4, .inl (upd f34 1 x2))), (a1, .inl (T 0, 4, .inl f35)), (a2, .inl (T 1, 120, .inr (.inl f36))), (a3, .inl (T 3, 120, .inr (.inr (.inr (.inl f37)))))] H := hP
              have hD : va_D A [(h0, .inr (10, fs0)), (a0, .inl (T 0, 4, .inl (upd f34 1 x2))), (a1, .inl (T 0, 4, .inl f35)), (a2, .inl (T 1, 120, .inr (.inl f36))), (a3, .inl (T 3, 120, .inr (.inr (.inr (.inl f37)))))] := hD
              refine lv_aload_n hx hb dX13_sheet_52 rfl (lv_at hl 0 rfl) ?_
              refine va_get (D := D) (ci := 10) (v := .ref a1) (C := RX13) (T := TX13) (N := 45) hx hb hts in_X13_sheet_X13 hown hE.1 hP 0 rfl rfl 35 (by decide) (hts (.fieldLink RX13 107 "ClauseBookModel" "sizes" "[I") (List.mem_of_getElem? (i := 4) rfl)) (fun _ h9 => h9) e0_35 dX13_sheet_53 ?_
              refine lv_iload_n hx hb dX13_sheet_56 rfl (lv_at hl 1 rfl) ?_
              refine lv_iload_n hx hb dX13_sheet_57 rfl (lv_at hl 2 rfl) ?_
              refine lv_if_ge (tgt := 65) hx hb dX13_sheet_58 (by decide) (fun c_53 => ?_) (fun c_53 => ?_)
              · rw [fa_le] at c_53
                try rw [ti_0] at c_53
                refine lv_iload_n hx hb dX13_sheet_65 rfl (lv_at hl 3 rfl) ?_
                refine va_iast hx hb hE.1 hP hD hS 2 0 rfl rfl (by unfold vp_in; decide) dX13_sheet_66 (fun H locs hP hD hS => ?_)
                have hP : va_P D vwCl [(h0, .inr (10, fs0)), (a0, .inl (T 0, 4, .inl (upd f34 1 x2))), (a1, .inl (T 0, 4, .inl (upd f35 1 x3))), (a2, .inl (T 1, 120, .inr (.inl f36))), (a3, .inl (T 3, 120, .inr (.inr (.inr (.inl f37)))))] H := hP
                have hD : va_D A [(h0, .inr (10, fs0)), (a0, .inl (T 0, 4, .inl (upd f34 1 x2))), (a1, .inl (T 0, 4, .inl (upd f35 1 x3))), (a2, .inl (T 1, 120, .inr (.inl f36))), (a3, .inl (T 3, 120, .inr (.inr (.inr (.inl f37)))))] := hD
                refine lv_iconst (v := 0) hx hb dX13_sheet_67 (by decide) ?_
                refine lv_istore (lv' := [(4, .int 0), (0, .ref h0), (1, .int 1), (2, .int x2), (3, .int x3)]) hx hb dX13_sheet_68 hl (by decide) rfl (fun ls hl => ?_)
                refine loopW (σ := (Int32) × (Nat → Int64) × (Nat → UInt64)) (fun x9 ls H locs => lv_has ls 5 [(4, .int x9.1), (0, .ref h0), (1, .int 1), (2, .int x2), (3, .int x3)] ∧ va_P D vwCl [(h0, .inr (10, fs0)), (a0, .inl (T 0, 4, .inl (upd f34 1 x2))), (a1, .inl (T 0, 4, .inl (upd f35 1 x3))), (a2, .inl (T 1, 120, .inr (.inl x9.2.1))), (a3, .inl (T 3, 120, .inr (.inr (.inr (.inl x9.2.2)))))] H ∧ va_D A [(h0, .inr (10, fs0)), (a0, .inl (T 0, 4, .inl (upd f34 1 x2))), (a1, .inl (T 0, 4, .inl (upd f35 1 x3))), (a2, .inl (T 1, 120, .inr (.inl x9.2.1))), (a3, .inl (T 3, 120, .inr (.inr (.inr (.inl x9.2.2)))))] ∧ va_S A s.heap H locs ∧ (0 ≤ x9.1.toInt)) (fun x9 => (30 - x9.1.toInt).toNat) (fun x9 ls H locs hI ih => ?_) (0, f36, f37) ls ⟨lv_sub hl [0, 1, 2, 3, 4] rfl, hP.sub [0, 1, 2, 3, 4] rfl, hD.sub [0, 1, 2, 3, 4] (by decide) rfl, hS, (by (try dsimp only); decide)⟩
                obtain ⟨ii, f36, f37⟩ := x9
                obtain ⟨hl, hP, hD, hS, hinv⟩ := hI
                have hl : lv_has ls 5 [(4, .int ii), (0, .ref h0), (1, .int 1), (2, .int x2), (3, .int x3)] := hl
                have hP : va_P D vwCl [(h0, .inr (10, fs0)), (a0, .inl (T 0, 4, .inl (upd f34 1 x2))), (a1, .inl (T 0, 4, .inl (upd f35 1 x3))), (a2, .inl (T 1, 120, .inr (.inl f36))), (a3, .inl (T 3, 120, .inr (.inr (.inr (.inl f37)))))] H := hP
                have hD : va_D A [(h0, .inr (10, fs0)), (a0, .inl (T 0, 4, .inl (upd f34 1 x2))), (a1, .inl (T 0, 4, .inl (upd f35 1 x3))), (a2, .inl (T 1, 120, .inr (.inl f36))), (a3, .inl (T 3, 120, .inr (.inr (.inr (.inl f37)))))] := hD
                have hinv : 0 ≤ ii.toInt := hinv
                refine lv_iload hx hb dX13_sheet_70 (lv_at hl 0 rfl) ?_
                refine lv_bipush (v := 30) hx hb dX13_sheet_72 (by decide) ?_
                refine lv_icmp_ge (tgt := 109) hx hb dX13_sheet_74 (by decide) (fun c_54 => ?_) (fun c_54 => ?_)
                · rw [fa_le] at c_54
                  try rw [ti_30] at c_54
                  refine lv_iconst (v := 1) hx hb dX13_sheet_109 (by decide) ?_
                  exact W.iret hx hb hr (fun t ht hW => ⟨⟨_, (), rfl, (by first | decide | (unfold sp_sheet; (repeat' split) <;> first | rfl | (exfalso; omega))), by rw [ht]; exact hP.sub [] rfl, hD.sub [] (by decide) rfl⟩, hS.F ht⟩) hS.2.2 dX13_sheet_110
                · rw [fa_le] at c_54
                  try rw [ti_30] at c_54
                  refine lv_aload_n hx hb dX13_sheet_77 rfl (lv_at hl 1 rfl) ?_
                  refine va_get (D := D) (ci := 10) (v := .ref a2) (C := RX13) (T := TX13) (N := 45) hx hb hts in_X13_sheet_X13 hown hE.1 hP 0 rfl rfl 36 (by decide) (hts (.fieldLink RX13 110 "ClauseBookModel" "whole" "[J") (List.mem_of_getElem? (i := 5) rfl)) (fun _ h9 => h9) e0_36 dX13_sheet_78 ?_
                  refine lv_bipush (v := 30) hx hb dX13_sheet_81 (by decide) ?_
                  refine lv_iload_n hx hb dX13_sheet_83 rfl (lv_at hl 2 rfl) ?_
                  refine lv_imul hx hb dX13_sheet_84 ?_
                  refine lv_topi (fun z_55 ez_55 => ?_)
                  obtain rfl : z_55 = 30 := ez_55.trans (by decide)
                  refine lv_iload hx hb dX13_sheet_85 (lv_at hl 0 rfl) ?_
                  refine lv_iadd hx hb dX13_sheet_87 ?_
                  refine lv_lconst (v := 0) hx hb dX13_sheet_88 (by decide) ?_
                  refine va_last hx hb hE.1 hP hD hS 3 1 rfl rfl (by rw [vp_in_iff, fb_addI (by rw [ti_30]; omega) (by rw [ti_30]; omega), ti_30]; omega) dX13_sheet_89 (fun H locs hP hD hS => ?_)
                  have hP : va_P D vwCl [(h0, .inr (10, fs0)), (a0, .inl (T 0, 4, .inl (upd f34 1 x2))), (a1, .inl (T 0, 4, .inl (upd f35 1 x3))), (a2, .inl (T 1, 120, .inr (.inl (vp_updL f36 ((30 + ii).toNatClampNeg) 0)))), (a3, .inl (T 3, 120, .inr (.inr (.inr (.inl f37)))))] H := hP
                  have hD : va_D A [(h0, .inr (10, fs0)), (a0, .inl (T 0, 4, .inl (upd f34 1 x2))), (a1, .inl (T 0, 4, .inl (upd f35 1 x3))), (a2, .inl (T 1, 120, .inr (.inl (vp_updL f36 ((30 + ii).toNatClampNeg) 0)))), (a3, .inl (T 3, 120, .inr (.inr (.inr (.inl f37)))))] := hD
                  refine lv_aload_n hx hb dX13_sheet_90 rfl (lv_at hl 1 rfl) ?_
                  refine va_get (D := D) (ci := 10) (v := .ref a3) (C := RX13) (T := TX13) (N := 45) hx hb hts in_X13_sheet_X13 hown hE.1 hP 0 rfl rfl 37 (by decide) (hts (.fieldLink RX13 113 "ClauseBookModel" "host" "[D") (List.mem_of_getElem? (i := 6) rfl)) (fun _ h9 => h9) e0_37 dX13_sheet_91 ?_
                  refine lv_bipush (v := 30) hx hb dX13_sheet_94 (by decide) ?_
                  refine lv_iload_n hx hb dX13_sheet_96 rfl (lv_at hl 2 rfl) ?_
                  refine lv_imul hx hb dX13_sheet_97 ?_
                  refine lv_topi (fun z_56 ez_56 => ?_)
                  obtain rfl : z_56 = 30 := ez_56.trans (by decide)
                  refine lv_iload hx hb dX13_sheet_98 (lv_at hl 0 rfl) ?_
                  refine lv_iadd hx hb dX13_sheet_100 ?_
                  refine lv_dconst0 hx hb dX13_sheet_101 ?_
                  refine va_dast hx hb hE.1 hP hD hS 4 3 rfl rfl (by rw [vp_in_iff, fb_addI (by rw [ti_30]; omega) (by rw [ti_30]; omega), ti_30]; omega) dX13_sheet_102 (fun H locs hP hD hS => ?_)
                  have hP : va_P D vwCl [(h0, .inr (10, fs0)), (a0, .inl (T 0, 4, .inl (upd f34 1 x2))), (a1, .inl (T 0, 4, .inl (upd f35 1 x3))), (a2, .inl (T 1, 120, .inr (.inl (vp_updL f36 ((30 + ii).toNatClampNeg) 0)))), (a3, .inl (T 3, 120, .inr (.inr (.inr (.inl (vf_upd f37 ((30 + ii).toNatClampNeg) FP.dconst0))))))] H := hP
                  have hD : va_D A [(h0, .inr (10, fs0)), (a0, .inl (T 0, 4, .inl (upd f34 1 x2))), (a1, .inl (T 0, 4, .inl (upd f35 1 x3))), (a2, .inl (T 1, 120, .inr (.inl (vp_updL f36 ((30 + ii).toNatClampNeg) 0)))), (a3, .inl (T 3, 120, .inr (.inr (.inr (.inl (vf_upd f37 ((30 + ii).toNatClampNeg) FP.dconst0))))))] := hD
                  obtain ⟨z_57, ez_57⟩ : ∃ y : Int32, y = ii + 1 := ⟨_, rfl⟩
                  refine lv_iinc (v := z_57) (lv' := [(4, .int z_57), (0, .ref h0), (1, .int 1), (2, .int x2), (3, .int x3)]) hx hb dX13_sheet_103 hl (k := 0) rfl (by rw [ez_57]; rfl) (by decide) rfl (fun ls hl => ?_)
                  refine lv_goto (tgt := 70) hx hb dX13_sheet_106 (by decide) ?_
                  exact ih (z_57, (vp_updL f36 ((30 + ii).toNatClampNeg) 0), (vf_upd f37 ((30 + ii).toNatClampNeg) FP.dconst0)) ls _ _ ⟨lv_sub hl [0, 1, 2, 3, 4] rfl, hP.sub [0, 1, 2, 3, 4] rfl, hD.sub [0, 1, 2, 3, 4] (by decide) rfl, hS, (by subst_vars; (try dsimp only); rw [inc1 (n := 30) (by omega) (by decide)]; omega)⟩ (by subst_vars; (try dsimp only); rw [inc1 (n := 30) (by omega) (by decide)]; omega)
              · rw [fa_le] at c_53
                try rw [ti_0] at c_53
                refine lv_iconst (v := 0) hx hb dX13_sheet_61 (by decide) ?_
                refine lv_goto (tgt := 66) hx hb dX13_sheet_62 (by decide) ?_
                refine va_iast hx hb hE.1 hP hD hS 2 0 rfl rfl (by unfold vp_in; decide) dX13_sheet_66 (fun H locs hP hD hS => ?_)
                have hP : va_P D vwCl [(h0, .inr (10, fs0)), (a0, .inl (T 0, 4, .inl (upd f34 1 x2))), (a1, .inl (T 0, 4, .inl (upd f35 1 0))), (a2, .inl (T 1, 120, .inr (.inl f36))), (a3, .inl (T 3, 120, .inr (.inr (.inr (.inl f37)))))] H := hP
                have hD : va_D A [(h0, .inr (10, fs0)), (a0, .inl (T 0, 4, .inl (upd f34 1 x2))), (a1, .inl (T 0, 4, .inl (upd f35 1 0))), (a2, .inl (T 1, 120, .inr (.inl f36))), (a3, .inl (T 3, 120, .inr (.inr (.inr (.inl f37)))))] := hD
                refine lv_iconst (v := 0) hx hb dX13_sheet_67 (by decide) ?_
                refine lv_istore (lv' := [(4, .int 0), (0, .ref h0), (1, .int 1), (2, .int x2), (3, .int x3)]) hx hb dX13_sheet_68 hl (by decide) rfl (fun ls hl => ?_)
                refine loopW (σ := (Int32) × (Nat → Int64) × (Nat → UInt64)) (fun x9 ls H locs => lv_has ls 5 [(4, .int x9.1), (0, .ref h0), (1, .int 1), (2, .int x2), (3, .int x3)] ∧ va_P D vwCl [(h0, .inr (10, fs0)), (a0, .inl (T 0, 4, .inl (upd f34 1 x2))), (a1, .inl (T 0, 4, .inl (upd f35 1 0))), (a2, .inl (T 1, 120, .inr (.inl x9.2.1))), (a3, .inl (T 3, 120, .inr (.inr (.inr (.inl x9.2.2)))))] H ∧ va_D A [(h0, .inr (10, fs0)), (a0, .inl (T 0, 4, .inl (upd f34 1 x2))), (a1, .inl (T 0, 4, .inl (upd f35 1 0))), (a2, .inl (T 1, 120, .inr (.inl x9.2.1))), (a3, .inl (T 3, 120, .inr (.inr (.inr (.inl x9.2.2)))))] ∧ va_S A s.heap H locs ∧ (0 ≤ x9.1.toInt)) (fun x9 => (30 - x9.1.toInt).toNat) (fun x9 ls H locs hI ih => ?_) (0, f36, f37) ls ⟨lv_sub hl [0, 1, 2, 3, 4] rfl, hP.sub [0, 1, 2, 3, 4] rfl, hD.sub [0, 1, 2, 3, 4] (by decide) rfl, hS, (by (try dsimp only); decide)⟩
                obtain ⟨ii, f36, f37⟩ := x9
                obtain ⟨hl, hP, hD, hS, hinv⟩ := hI
                have hl : lv_has ls 5 [(4, .int ii), (0, .ref h0), (1, .int 1), (2, .int x2), (3, .int x3)] := hl
                have hP : va_P D vwCl [(h0, .inr (10, fs0)), (a0, .inl (T 0, 4, .inl (upd f34 1 x2))), (a1, .inl (T 0, 4, .inl (upd f35 1 0))), (a2, .inl (T 1, 120, .inr (.inl f36))), (a3, .inl (T 3, 120, .inr (.inr (.inr (.inl f37)))))] H := hP
                have hD : va_D A [(h0, .inr (10, fs0)), (a0, .inl (T 0, 4, .inl (upd f34 1 x2))), (a1, .inl (T 0, 4, .inl (upd f35 1 0))), (a2, .inl (T 1, 120, .inr (.inl f36))), (a3, .inl (T 3, 120, .inr (.inr (.inr (.inl f37)))))] := hD
                have hinv : 0 ≤ ii.toInt := hinv
                refine lv_iload hx hb dX13_sheet_70 (lv_at hl 0 rfl) ?_
                refine lv_bipush (v := 30) hx hb dX13_sheet_72 (by decide) ?_
                refine lv_icmp_ge (tgt := 109) hx hb dX13_sheet_74 (by decide) (fun c_58 => ?_) (fun c_58 => ?_)
                · rw [fa_le] at c_58
                  try rw [ti_30] at c_58
                  refine lv_iconst (v := 1) hx hb dX13_sheet_109 (by decide) ?_
                  exact W.iret hx hb hr (fun t ht hW => ⟨⟨_, (), rfl, (by first | decide | (unfold sp_sheet; (repeat' split) <;> first | rfl | (exfalso; omega))), by rw [ht]; exact hP.sub [] rfl, hD.sub [] (by decide) rfl⟩, hS.F ht⟩) hS.2.2 dX13_sheet_110
                · rw [fa_le] at c_58
                  try rw [ti_30] at c_58
                  refine lv_aload_n hx hb dX13_sheet_77 rfl (lv_at hl 1 rfl) ?_
                  refine va_get (D := D) (ci := 10) (v := .ref a2) (C := RX13) (T := TX13) (N := 45) hx hb hts in_X13_sheet_X13 hown hE.1 hP 0 rfl rfl 36 (by decide) (hts (.fieldLink RX13 110 "ClauseBookModel" "whole" "[J") (List.mem_of_getElem? (i := 5) rfl)) (fun _ h9 => h9) e0_36 dX13_sheet_78 ?_
                  refine lv_bipush (v := 30) hx hb dX13_sheet_81 (by decide) ?_
                  refine lv_iload_n hx hb dX13_sheet_83 rfl (lv_at hl 2 rfl) ?_
                  refine lv_imul hx hb dX13_sheet_84 ?_
                  refine lv_topi (fun z_59 ez_59 => ?_)
                  obtain rfl : z_59 = 30 := ez_59.trans (by decide)
                  refine lv_iload hx hb dX13_sheet_85 (lv_at hl 0 rfl) ?_
                  refine lv_iadd hx hb dX13_sheet_87 ?_
                  refine lv_lconst (v := 0) hx hb dX13_sheet_88 (by decide) ?_
                  refine va_last hx hb hE.1 hP hD hS 3 1 rfl rfl (by rw [vp_in_iff, fb_addI (by rw [ti_30]; omega) (by rw [ti_30]; omega), ti_30]; omega) dX13_sheet_89 (fun H locs hP hD hS => ?_)
                  have hP : va_P D vwCl [(h0, .inr (10, fs0)), (a0, .inl (T 0, 4, .inl (upd f34 1 x2))), (a1, .inl (T 0, 4, .inl (upd f35 1 0))), (a2, .inl (T 1, 120, .inr (.inl (vp_updL f36 ((30 + ii).toNatClampNeg) 0)))), (a3, .inl (T 3, 120, .inr (.inr (.inr (.inl f37)))))] H := hP
                  have hD : va_D A [(h0, .inr (10, fs0)), (a0, .inl (T 0, 4, .inl (upd f34 1 x2))), (a1, .inl (T 0, 4, .inl (upd f35 1 0))), (a2, .inl (T 1, 120, .inr (.inl (vp_updL f36 ((30 + ii).toNatClampNeg) 0)))), (a3, .inl (T 3, 120, .inr (.inr (.inr (.inl f37)))))] := hD
                  refine lv_aload_n hx hb dX13_sheet_90 rfl (lv_at hl 1 rfl) ?_
                  refine va_get (D := D) (ci := 10) (v := .ref a3) (C := RX13) (T := TX13) (N := 45) hx hb hts in_X13_sheet_X13 hown hE.1 hP 0 rfl rfl 37 (by decide) (hts (.fieldLink RX13 113 "ClauseBookModel" "host" "[D") (List.mem_of_getElem? (i := 6) rfl)) (fun _ h9 => h9) e0_37 dX13_sheet_91 ?_
                  refine lv_bipush (v := 30) hx hb dX13_sheet_94 (by decide) ?_
                  refine lv_iload_n hx hb dX13_sheet_96 rfl (lv_at hl 2 rfl) ?_
                  refine lv_imul hx hb dX13_sheet_97 ?_
                  refine lv_topi (fun z_60 ez_60 => ?_)
                  obtain rfl : z_60 = 30 := ez_60.trans (by decide)
                  refine lv_iload hx hb dX13_sheet_98 (lv_at hl 0 rfl) ?_
                  refine lv_iadd hx hb dX13_sheet_100 ?_
                  refine lv_dconst0 hx hb dX13_sheet_101 ?_
                  refine va_dast hx hb hE.1 hP hD hS 4 3 rfl rfl (by rw [vp_in_iff, fb_addI (by rw [ti_30]; omega) (by rw [ti_30]; omega), ti_30]; omega) dX13_sheet_102 (fun H locs hP hD hS => ?_)
                  have hP : va_P D vwCl [(h0, .inr (10, fs0)), (a0, .inl (T 0, 4, .inl (upd f34 1 x2))), (a1, .inl (T 0, 4, .inl (upd f35 1 0))), (a2, .inl (T 1, 120, .inr (.inl (vp_updL f36 ((30 + ii).toNatClampNeg) 0)))), (a3, .inl (T 3, 120, .inr (.inr (.inr (.inl (vf_upd f37 ((30 + ii).toNatClampNeg) FP.dconst0))))))] H := hP
                  have hD : va_D A [(h0, .inr (10, fs0)), (a0, .inl (T 0, 4, .inl (upd f34 1 x2))), (a1, .inl (T 0, 4, .inl (upd f35 1 0))), (a2, .inl (T 1, 120, .inr (.inl (vp_updL f36 ((30 + ii).toNatClampNeg) 0)))), (a3, .inl (T 3, 120, .inr (.inr (.inr (.inl (vf_upd f37 ((30 + ii).toNatClampNeg) FP.dconst0))))))] := hD
                  obtain ⟨z_61, ez_61⟩ : ∃ y : Int32, y = ii + 1 := ⟨_, rfl⟩
                  refine lv_iinc (v := z_61) (lv' := [(4, .int z_61), (0, .ref h0), (1, .int 1), (2, .int x2), (3, .int x3)]) hx hb dX13_sheet_103 hl (k := 0) rfl (by rw [ez_61]; rfl) (by decide) rfl (fun ls hl => ?_)
                  refine lv_goto (tgt := 70) hx hb dX13_sheet_106 (by decide) ?_
                  exact ih (z_61, (vp_updL f36 ((30 + ii).toNatClampNeg) 0), (vf_upd f37 ((30 + ii).toNatClampNeg) FP.dconst0)) ls _ _ ⟨lv_sub hl [0, 1, 2, 3, 4] rfl, hP.sub [0, 1, 2, 3, 4] rfl, hD.sub [0, 1, 2, 3, 4] (by decide) rfl, hS, (by subst_vars; (try dsimp only); rw [inc1 (n := 30) (by omega) (by decide)]; omega)⟩ (by subst_vars; (try dsimp only); rw [inc1 (n := 30) (by omega) (by decide)]; omega)
            · refine lv_aload_n hx hb dX13_sheet_45 rfl (lv_at hl 0 rfl) ?_
              refine va_get (D := D) (ci := 10) (v := .ref a0) (C := RX13) (T := TX13) (N := 45) hx hb hts in_X13_sheet_X13 hown hE.1 hP 0 rfl rfl 34 (by decide) (hts (.fieldLink RX13 104 "ClauseBookModel" "sorts" "[I") (List.mem_of_getElem? (i := 3) rfl)) (fun _ h9 => h9) e0_34 dX13_sheet_46 ?_
              refine lv_iload_n hx hb dX13_sheet_49 rfl (lv_at hl 1 rfl) ?_
              refine lv_iload_n hx hb dX13_sheet_50 rfl (lv_at hl 2 rfl) ?_
              refine va_iast hx hb hE.1 hP hD hS 1 0 rfl rfl (by unfold vp_in; decide) dX13_sheet_51 (fun H locs hP hD hS => ?_)
              have hP : va_P D vwCl [(h0, .inr (10, fs0)), (a0, .inl (T 0, 4, .inl (upd f34 2 x2))), (a1, .inl (T 0, 4, .inl f35)), (a2, .inl (T 1, 120, .inr (.inl f36))), (a3, .inl (T 3, 120, .inr (.inr (.inr (.inl f37)))))] H := hP
              have hD : va_D A [(h0, .inr (10, fs0)), (a0, .inl (T 0, 4, .inl (upd f34 2 x2))), (a1, .inl (T 0, 4, .inl f35)), (a2, .inl (T 1, 120, .inr (.inl f36))), (a3, .inl (T 3, 120, .inr (.inr (.inr (.inl f37)))))] := hD
              refine lv_aload_n hx hb dX13_sheet_52 rfl (lv_at hl 0 rfl) ?_
              refine va_get (D := D) (ci := 10) (v := .ref a1) (C := RX13) (T := TX13) (N := 45) hx hb hts in_X13_sheet_X13 hown hE.1 hP 0 rfl rfl 35 (by decide) (hts (.fieldLink RX13 107 "ClauseBookModel" "sizes" "[I") (List.mem_of_getElem? (i := 4) rfl)) (fun _ h9 => h9) e0_35 dX13_sheet_53 ?_
              refine lv_iload_n hx hb dX13_sheet_56 rfl (lv_at hl 1 rfl) ?_
              refine lv_iload_n hx hb dX13_sheet_57 rfl (lv_at hl 2 rfl) ?_
              refine lv_if_ge (tgt := 65) hx hb dX13_sheet_58 (by decide) (fun c_62 => ?_) (fun c_62 => ?_)
              · rw [fa_le] at c_62
                try rw [ti_0] at c_62
                refine lv_iload_n hx hb dX13_sheet_65 rfl (lv_at hl 3 rfl) ?_
                refine va_iast hx hb hE.1 hP hD hS 2 0 rfl rfl (by unfold vp_in; decide) dX13_sheet_66 (fun H locs hP hD hS => ?_)
                have hP : va_P D vwCl [(h0, .inr (10, fs0)), (a0, .inl (T 0, 4, .inl (upd f34 2 x2))), (a1, .inl (T 0, 4, .inl (upd f35 2 x3))), (a2, .inl (T 1, 120, .inr (.inl f36))), (a3, .inl (T 3, 120, .inr (.inr (.inr (.inl f37)))))] H := hP
                have hD : va_D A [(h0, .inr (10, fs0)), (a0, .inl (T 0, 4, .inl (upd f34 2 x2))), (a1, .inl (T 0, 4, .inl (upd f35 2 x3))), (a2, .inl (T 1, 120, .inr (.inl f36))), (a3, .inl (T 3, 120, .inr (.inr (.inr (.inl f37)))))] := hD
                refine lv_iconst (v := 0) hx hb dX13_sheet_67 (by decide) ?_
                refine lv_istore (lv' := [(4, .int 0), (0, .ref h0), (1, .int 2), (2, .int x2), (3, .int x3)]) hx hb dX13_sheet_68 hl (by decide) rfl (fun ls hl => ?_)
                refine loopW (σ := (Int32) × (Nat → Int64) × (Nat → UInt64)) (fun x9 ls H locs => lv_has ls 5 [(4, .int x9.1), (0, .ref h0), (1, .int 2), (2, .int x2), (3, .int x3)] ∧ va_P D vwCl [(h0, .inr (10, fs0)), (a0, .inl (T 0, 4, .inl (upd f34 2 x2))), (a1, .inl (T 0, 4, .inl (upd f35 2 x3))), (a2, .inl (T 1, 120, .inr (.inl x9.2.1))), (a3, .inl (T 3, 120, .inr (.inr (.inr (.inl x9.2.2)))))] H ∧ va_D A [(h0, .inr (10, fs0)), (a0, .inl (T 0, 4, .inl (upd f34 2 x2))), (a1, .inl (T 0, 4, .inl (upd f35 2 x3))), (a2, .inl (T 1, 120, .inr (.inl x9.2.1))), (a3, .inl (T 3, 120, .inr (.inr (.inr (.inl x9.2.2)))))] ∧ va_S A s.heap H locs ∧ (0 ≤ x9.1.toInt)) (fun x9 => (30 - x9.1.toInt).toNat) (fun x9 ls H locs hI ih => ?_) (0, f36, f37) ls ⟨lv_sub hl [0, 1, 2, 3, 4] rfl, hP.sub [0, 1, 2, 3, 4] rfl, hD.sub [0, 1, 2, 3, 4] (by decide) rfl, hS, (by (try dsimp only); decide)⟩
                obtain ⟨ii, f36, f37⟩ := x9
                obtain ⟨hl, hP, hD, hS, hinv⟩ := hI
                have hl : lv_has ls 5 [(4, .int ii), (0, .ref h0), (1, .int 2), (2, .int x2), (3, .int x3)] := hl
                have hP : va_P D vwCl [(h0, .inr (10, fs0)), (a0, .inl (T 0, 4, .inl (upd f34 2 x2))), (a1, .inl (T 0, 4, .inl (upd f35 2 x3))), (a2, .inl (T 1, 120, .inr (.inl f36))), (a3, .inl (T 3, 120, .inr (.inr (.inr (.inl f37)))))] H := hP
                have hD : va_D A [(h0, .inr (10, fs0)), (a0, .inl (T 0, 4, .inl (upd f34 2 x2))), (a1, .inl (T 0, 4, .inl (upd f35 2 x3))), (a2, .inl (T 1, 120, .inr (.inl f36))), (a3, .inl (T 3, 120, .inr (.inr (.inr (.inl f37)))))] := hD
                have hinv : 0 ≤ ii.toInt := hinv
                refine lv_iload hx hb dX13_sheet_70 (lv_at hl 0 rfl) ?_
                refine lv_bipush (v := 30) hx hb dX13_sheet_72 (by decide) ?_
                refine lv_icmp_ge (tgt := 109) hx hb dX13_sheet_74 (by decide) (fun c_63 => ?_) (fun c_63 => ?_)
                · rw [fa_le] at c_63
                  try rw [ti_30] at c_63
                  refine lv_iconst (v := 1) hx hb dX13_sheet_109 (by decide) ?_
                  exact W.iret hx hb hr (fun t ht hW => ⟨⟨_, (), rfl, (by first | decide | (unfold sp_sheet; (repeat' split) <;> first | rfl | (exfalso; omega))), by rw [ht]; exact hP.sub [] rfl, hD.sub [] (by decide) rfl⟩, hS.F ht⟩) hS.2.2 dX13_sheet_110
                · rw [fa_le] at c_63
                  try rw [ti_30] at c_63
                  refine lv_aload_n hx hb dX13_sheet_77 rfl (lv_at hl 1 rfl) ?_
                  refine va_get (D := D) (ci := 10) (v := .ref a2) (C := RX13) (T := TX13) (N := 45) hx hb hts in_X13_sheet_X13 hown hE.1 hP 0 rfl rfl 36 (by decide) (hts (.fieldLink RX13 110 "ClauseBookModel" "whole" "[J") (List.mem_of_getElem? (i := 5) rfl)) (fun _ h9 => h9) e0_36 dX13_sheet_78 ?_
                  refine lv_bipush (v := 30) hx hb dX13_sheet_81 (by decide) ?_
                  refine lv_iload_n hx hb dX13_sheet_83 rfl (lv_at hl 2 rfl) ?_
                  refine lv_imul hx hb dX13_sheet_84 ?_
                  refine lv_topi (fun z_64 ez_64 => ?_)
                  obtain rfl : z_64 = 60 := ez_64.trans (by decide)
                  refine lv_iload hx hb dX13_sheet_85 (lv_at hl 0 rfl) ?_
                  refine lv_iadd hx hb dX13_sheet_87 ?_
                  refine lv_lconst (v := 0) hx hb dX13_sheet_88 (by decide) ?_
                  refine va_last hx hb hE.1 hP hD hS 3 1 rfl rfl (by rw [vp_in_iff, fb_addI (by rw [ti_60]; omega) (by rw [ti_60]; omega), ti_60]; omega) dX13_sheet_89 (fun H locs hP hD hS => ?_)
                  have hP : va_P D vwCl [(h0, .inr (10, fs0)), (a0, .inl (T 0, 4, .inl (upd f34 2 x2))), (a1, .inl (T 0, 4, .inl (upd f35 2 x3))), (a2, .inl (T 1, 120, .inr (.inl (vp_updL f36 ((60 + ii).toNatClampNeg) 0)))), (a3, .inl (T 3, 120, .inr (.inr (.inr (.inl f37)))))] H := hP
                  have hD : va_D A [(h0, .inr (10, fs0)), (a0, .inl (T 0, 4, .inl (upd f34 2 x2))), (a1, .inl (T 0, 4, .inl (upd f35 2 x3))), (a2, .inl (T 1, 120, .inr (.inl (vp_updL f36 ((60 + ii).toNatClampNeg) 0)))), (a3, .inl (T 3, 120, .inr (.inr (.inr (.inl f37)))))] := hD
                  refine lv_aload_n hx hb dX13_sheet_90 rfl (lv_at hl 1 rfl) ?_
                  refine va_get (D := D) (ci := 10) (v := .ref a3) (C := RX13) (T := TX13) (N := 45) hx hb hts in_X13_sheet_X13 hown hE.1 hP 0 rfl rfl 37 (by decide) (hts (.fieldLink RX13 113 "ClauseBookModel" "host" "[D") (List.mem_of_getElem? (i := 6) rfl)) (fun _ h9 => h9) e0_37 dX13_sheet_91 ?_
                  refine lv_bipush (v := 30) hx hb dX13_sheet_94 (by decide) ?_
                  refine lv_iload_n hx hb dX13_sheet_96 rfl (lv_at hl 2 rfl) ?_
                  refine lv_imul hx hb dX13_sheet_97 ?_
                  refine lv_topi (fun z_65 ez_65 => ?_)
                  obtain rfl : z_65 = 60 := ez_65.trans (by decide)
                  refine lv_iload hx hb dX13_sheet_98 (lv_at hl 0 rfl) ?_
                  refine lv_iadd hx hb dX13_sheet_100 ?_
                  refine lv_dconst0 hx hb dX13_sheet_101 ?_
                  refine va_dast hx hb hE.1 hP hD hS 4 3 rfl rfl (by rw [vp_in_iff, fb_addI (by rw [ti_60]; omega) (by rw [ti_60]; omega), ti_60]; omega) dX13_sheet_102 (fun H locs hP hD hS => ?_)
                  have hP : va_P D vwCl [(h0, .inr (10, fs0)), (a0, .inl (T 0, 4, .inl (upd f34 2 x2))), (a1, .inl (T 0, 4, .inl (upd f35 2 x3))), (a2, .inl (T 1, 120, .inr (.inl (vp_updL f36 ((60 + ii).toNatClampNeg) 0)))), (a3, .inl (T 3, 120, .inr (.inr (.inr (.inl (vf_upd f37 ((60 + ii).toNatClampNeg) FP.dconst0))))))] H := hP
                  have hD : va_D A [(h0, .inr (10, fs0)), (a0, .inl (T 0, 4, .inl (upd f34 2 x2))), (a1, .inl (T 0, 4, .inl (upd f35 2 x3))), (a2, .inl (T 1, 120, .inr (.inl (vp_updL f36 ((60 + ii).toNatClampNeg) 0)))), (a3, .inl (T 3, 120, .inr (.inr (.inr (.inl (vf_upd f37 ((60 + ii).toNatClampNeg) FP.dconst0))))))] := hD
                  obtain ⟨z_66, ez_66⟩ : ∃ y : Int32, y = ii + 1 := ⟨_, rfl⟩
                  refine lv_iinc (v := z_66) (lv' := [(4, .int z_66), (0, .ref h0), (1, .int 2), (2, .int x2), (3, .int x3)]) hx hb dX13_sheet_103 hl (k := 0) rfl (by rw [ez_66]; rfl) (by decide) rfl (fun ls hl => ?_)
                  refine lv_goto (tgt := 70) hx hb dX13_sheet_106 (by decide) ?_
                  exact ih (z_66, (vp_updL f36 ((60 + ii).toNatClampNeg) 0), (vf_upd f37 ((60 + ii).toNatClampNeg) FP.dconst0)) ls _ _ ⟨lv_sub hl [0, 1, 2, 3, 4] rfl, hP.sub [0, 1, 2, 3, 4] rfl, hD.sub [0, 1, 2, 3, 4] (by decide) rfl, hS, (by subst_vars; (try dsimp only); rw [inc1 (n := 30) (by omega) (by decide)]; omega)⟩ (by subst_vars; (try dsimp only); rw [inc1 (n := 30) (by omega) (by decide)]; omega)
              · rw [fa_le] at c_62
                try rw [ti_0] at c_62
                refine lv_iconst (v := 0) hx hb dX13_sheet_61 (by decide) ?_
                refine lv_goto (tgt := 66) hx hb dX13_sheet_62 (by decide) ?_
                refine va_iast hx hb hE.1 hP hD hS 2 0 rfl rfl (by unfold vp_in; decide) dX13_sheet_66 (fun H locs hP hD hS => ?_)
                have hP : va_P D vwCl [(h0, .inr (10, fs0)), (a0, .inl (T 0, 4, .inl (upd f34 2 x2))), (a1, .inl (T 0, 4, .inl (upd f35 2 0))), (a2, .inl (T 1, 120, .inr (.inl f36))), (a3, .inl (T 3, 120, .inr (.inr (.inr (.inl f37)))))] H := hP
                have hD : va_D A [(h0, .inr (10, fs0)), (a0, .inl (T 0, 4, .inl (upd f34 2 x2))), (a1, .inl (T 0, 4, .inl (upd f35 2 0))), (a2, .inl (T 1, 120, .inr (.inl f36))), (a3, .inl (T 3, 120, .inr (.inr (.inr (.inl f37)))))] := hD
                refine lv_iconst (v := 0) hx hb dX13_sheet_67 (by decide) ?_
                refine lv_istore (lv' := [(4, .int 0), (0, .ref h0), (1, .int 2), (2, .int x2), (3, .int x3)]) hx hb dX13_sheet_68 hl (by decide) rfl (fun ls hl => ?_)
                refine loopW (σ := (Int32) × (Nat → Int64) × (Nat → UInt64)) (fun x9 ls H locs => lv_has ls 5 [(4, .int x9.1), (0, .ref h0), (1, .int 2), (2, .int x2), (3, .int x3)] ∧ va_P D vwCl [(h0, .inr (10, fs0)), (a0, .inl (T 0, 4, .inl (upd f34 2 x2))), (a1, .inl (T 0, 4, .inl (upd f35 2 0))), (a2, .inl (T 1, 120, .inr (.inl x9.2.1))), (a3, .inl (T 3, 120, .inr (.inr (.inr (.inl x9.2.2)))))] H ∧ va_D A [(h0, .inr (10, fs0)), (a0, .inl (T 0, 4, .inl (upd f34 2 x2))), (a1, .inl (T 0, 4, .inl (upd f35 2 0))), (a2, .inl (T 1, 120, .inr (.inl x9.2.1))), (a3, .inl (T 3, 120, .inr (.inr (.inr (.inl x9.2.2)))))] ∧ va_S A s.heap H locs ∧ (0 ≤ x9.1.toInt)) (fun x9 => (30 - x9.1.toInt).toNat) (fun x9 ls H locs hI ih => ?_) (0, f36, f37) ls ⟨lv_sub hl [0, 1, 2, 3, 4] rfl, hP.sub [0, 1, 2, 3, 4] rfl, hD.sub [0, 1, 2, 3, 4] (by decide) rfl, hS, (by (try dsimp only); decide)⟩
                obtain ⟨ii, f36, f37⟩ := x9
                obtain ⟨hl, hP, hD, hS, hinv⟩ := hI
                have hl : lv_has ls 5 [(4, .int ii), (0, .ref h0), (1, .int 2), (2, .int x2), (3, .int x3)] := hl
                have hP : va_P D vwCl [(h0, .inr (10, fs0)), (a0, .inl (T 0, 4, .inl (upd f34 2 x2))), (a1, .inl (T 0, 4, .inl (upd f35 2 0))), (a2, .inl (T 1, 120, .inr (.inl f36))), (a3, .inl (T 3, 120, .inr (.inr (.inr (.inl f37)))))] H := hP
                have hD : va_D A [(h0, .inr (10, fs0)), (a0, .inl (T 0, 4, .inl (upd f34 2 x2))), (a1, .inl (T 0, 4, .inl (upd f35 2 0))), (a2, .inl (T 1, 120, .inr (.inl f36))), (a3, .inl (T 3, 120, .inr (.inr (.inr (.inl f37)))))] := hD
                have hinv : 0 ≤ ii.toInt := hinv
                refine lv_iload hx hb dX13_sheet_70 (lv_at hl 0 rfl) ?_
                refine lv_bipush (v := 30) hx hb dX13_sheet_72 (by decide) ?_
                refine lv_icmp_ge (tgt := 109) hx hb dX13_sheet_74 (by decide) (fun c_67 => ?_) (fun c_67 => ?_)
                · rw [fa_le] at c_67
                  try rw [ti_30] at c_67
                  refine lv_iconst (v := 1) hx hb dX13_sheet_109 (by decide) ?_
                  exact W.iret hx hb hr (fun t ht hW => ⟨⟨_, (), rfl, (by first | decide | (unfold sp_sheet; (repeat' split) <;> first | rfl | (exfalso; omega))), by rw [ht]; exact hP.sub [] rfl, hD.sub [] (by decide) rfl⟩, hS.F ht⟩) hS.2.2 dX13_sheet_110
                · rw [fa_le] at c_67
                  try rw [ti_30] at c_67
                  refine lv_aload_n hx hb dX13_sheet_77 rfl (lv_at hl 1 rfl) ?_
                  refine va_get (D := D) (ci := 10) (v := .ref a2) (C := RX13) (T := TX13) (N := 45) hx hb hts in_X13_sheet_X13 hown hE.1 hP 0 rfl rfl 36 (by decide) (hts (.fieldLink RX13 110 "ClauseBookModel" "whole" "[J") (List.mem_of_getElem? (i := 5) rfl)) (fun _ h9 => h9) e0_36 dX13_sheet_78 ?_
                  refine lv_bipush (v := 30) hx hb dX13_sheet_81 (by decide) ?_
                  refine lv_iload_n hx hb dX13_sheet_83 rfl (lv_at hl 2 rfl) ?_
                  refine lv_imul hx hb dX13_sheet_84 ?_
                  refine lv_topi (fun z_68 ez_68 => ?_)
                  obtain rfl : z_68 = 60 := ez_68.trans (by decide)
                  refine lv_iload hx hb dX13_sheet_85 (lv_at hl 0 rfl) ?_
                  refine lv_iadd hx hb dX13_sheet_87 ?_
                  refine lv_lconst (v := 0) hx hb dX13_sheet_88 (by decide) ?_
                  refine va_last hx hb hE.1 hP hD hS 3 1 rfl rfl (by rw [vp_in_iff, fb_addI (by rw [ti_60]; omega) (by rw [ti_60]; omega), ti_60]; omega) dX13_sheet_89 (fun H locs hP hD hS => ?_)
                  have hP : va_P D vwCl [(h0, .inr (10, fs0)), (a0, .inl (T 0, 4, .inl (upd f34 2 x2))), (a1, .inl (T 0, 4, .inl (upd f35 2 0))), (a2, .inl (T 1, 120, .inr (.inl (vp_updL f36 ((60 + ii).toNatClampNeg) 0)))), (a3, .inl (T 3, 120, .inr (.inr (.inr (.inl f37)))))] H := hP
                  have hD : va_D A [(h0, .inr (10, fs0)), (a0, .inl (T 0, 4, .inl (upd f34 2 x2))), (a1, .inl (T 0, 4, .inl (upd f35 2 0))), (a2, .inl (T 1, 120, .inr (.inl (vp_updL f36 ((60 + ii).toNatClampNeg) 0)))), (a3, .inl (T 3, 120, .inr (.inr (.inr (.inl f37)))))] := hD
                  refine lv_aload_n hx hb dX13_sheet_90 rfl (lv_at hl 1 rfl) ?_
                  refine va_get (D := D) (ci := 10) (v := .ref a3) (C := RX13) (T := TX13) (N := 45) hx hb hts in_X13_sheet_X13 hown hE.1 hP 0 rfl rfl 37 (by decide) (hts (.fieldLink RX13 113 "ClauseBookModel" "host" "[D") (List.mem_of_getElem? (i := 6) rfl)) (fun _ h9 => h9) e0_37 dX13_sheet_91 ?_
                  refine lv_bipush (v := 30) hx hb dX13_sheet_94 (by decide) ?_
                  refine lv_iload_n hx hb dX13_sheet_96 rfl (lv_at hl 2 rfl) ?_
                  refine lv_imul hx hb dX13_sheet_97 ?_
                  refine lv_topi (fun z_69 ez_69 => ?_)
                  obtain rfl : z_69 = 60 := ez_69.trans (by decide)
                  refine lv_iload hx hb dX13_sheet_98 (lv_at hl 0 rfl) ?_
                  refine lv_iadd hx hb dX13_sheet_100 ?_
                  refine lv_dconst0 hx hb dX13_sheet_101 ?_
                  refine va_dast hx hb hE.1 hP hD hS 4 3 rfl rfl (by rw [vp_in_iff, fb_addI (by rw [ti_60]; omega) (by rw [ti_60]; omega), ti_60]; omega) dX13_sheet_102 (fun H locs hP hD hS => ?_)
                  have hP : va_P D vwCl [(h0, .inr (10, fs0)), (a0, .inl (T 0, 4, .inl (upd f34 2 x2))), (a1, .inl (T 0, 4, .inl (upd f35 2 0))), (a2, .inl (T 1, 120, .inr (.inl (vp_updL f36 ((60 + ii).toNatClampNeg) 0)))), (a3, .inl (T 3, 120, .inr (.inr (.inr (.inl (vf_upd f37 ((60 + ii).toNatClampNeg) FP.dconst0))))))] H := hP
                  have hD : va_D A [(h0, .inr (10, fs0)), (a0, .inl (T 0, 4, .inl (upd f34 2 x2))), (a1, .inl (T 0, 4, .inl (upd f35 2 0))), (a2, .inl (T 1, 120, .inr (.inl (vp_updL f36 ((60 + ii).toNatClampNeg) 0)))), (a3, .inl (T 3, 120, .inr (.inr (.inr (.inl (vf_upd f37 ((60 + ii).toNatClampNeg) FP.dconst0))))))] := hD
                  obtain ⟨z_70, ez_70⟩ : ∃ y : Int32, y = ii + 1 := ⟨_, rfl⟩
                  refine lv_iinc (v := z_70) (lv' := [(4, .int z_70), (0, .ref h0), (1, .int 2), (2, .int x2), (3, .int x3)]) hx hb dX13_sheet_103 hl (k := 0) rfl (by rw [ez_70]; rfl) (by decide) rfl (fun ls hl => ?_)
                  refine lv_goto (tgt := 70) hx hb dX13_sheet_106 (by decide) ?_
                  exact ih (z_70, (vp_updL f36 ((60 + ii).toNatClampNeg) 0), (vf_upd f37 ((60 + ii).toNatClampNeg) FP.dconst0)) ls _ _ ⟨lv_sub hl [0, 1, 2, 3, 4] rfl, hP.sub [0, 1, 2, 3, 4] rfl, hD.sub [0, 1, 2, 3, 4] (by decide) rfl, hS, (by subst_vars; (try dsimp only); rw [inc1 (n := 30) (by omega) (by decide)]; omega)⟩ (by subst_vars; (try dsimp only); rw [inc1 (n := 30) (by omega) (by decide)]; omega)
            · refine lv_aload_n hx hb dX13_sheet_45 rfl (lv_at hl 0 rfl) ?_
              refine va_get (D := D) (ci := 10) (v := .ref a0) (C := RX13) (T := TX13) (N := 45) hx hb hts in_X13_sheet_X13 hown hE.1 hP 0 rfl rfl 34 (by decide) (hts (.fieldLink RX13 104 "ClauseBookModel" "sorts" "[I") (List.mem_of_getElem? (i := 3) rfl)) (fun _ h9 => h9) e0_34 dX13_sheet_46 ?_
              refine lv_iload_n hx hb dX13_sheet_49 rfl (lv_at hl 1 rfl) ?_
              refine lv_iload_n hx hb dX13_sheet_50 rfl (lv_at hl 2 rfl) ?_
              refine va_iast hx hb hE.1 hP hD hS 1 0 rfl rfl (by unfold vp_in; decide) dX13_sheet_51 (fun H locs hP hD hS => ?_)
              have hP : va_P D vwCl [(h0, .inr (10, fs0)), (a0, .inl (T 0, 4, .inl (upd f34 3 x2))), (a1, .inl (T 0, 4, .inl f35)), (a2, .inl (T 1, 120, .inr (.inl f36))), (a3, .inl (T 3, 120, .inr (.inr (.inr (.inl f37)))))] H := hP
              have hD : va_D A [(h0, .inr (10, fs0)), (a0, .inl (T 0, 4, .inl (upd f34 3 x2))), (a1, .inl (T 0, 4, .inl f35)), (a2, .inl (T 1, 120, .inr (.inl f36))), (a3, .inl (T 3, 120, .inr (.inr (.inr (.inl f37)))))] := hD
              refine lv_aload_n hx hb dX13_sheet_52 rfl (lv_at hl 0 rfl) ?_
              refine va_get (D := D) (ci := 10) (v := .ref a1) (C := RX13) (T := TX13) (N := 45) hx hb hts in_X13_sheet_X13 hown hE.1 hP 0 rfl rfl 35 (by decide) (hts (.fieldLink RX13 107 "ClauseBookModel" "sizes" "[I") (List.mem_of_getElem? (i := 4) rfl)) (fun _ h9 => h9) e0_35 dX13_sheet_53 ?_
              refine lv_iload_n hx hb dX13_sheet_56 rfl (lv_at hl 1 rfl) ?_
              refine lv_iload_n hx hb dX13_sheet_57 rfl (lv_at hl 2 rfl) ?_
              refine lv_if_ge (tgt := 65) hx hb dX13_sheet_58 (by decide) (fun c_71 => ?_) (fun c_71 => ?_)
              · rw [fa_le] at c_71
                try rw [ti_0] at c_71
                refine lv_iload_n hx hb dX13_sheet_65 rfl (lv_at hl 3 rfl) ?_
                refine va_iast hx hb hE.1 hP hD hS 2 0 rfl rfl (by unfold vp_in; decide) dX13_sheet_66 (fun H locs hP hD hS => ?_)
                have hP : va_P D vwCl [(h0, .inr (10, fs0)), (a0, .inl (T 0, 4, .inl (upd f34 3 x2))), (a1, .inl (T 0, 4, .inl (upd f35 3 x3))), (a2, .inl (T 1, 120, .inr (.inl f36))), (a3, .inl (T 3, 120, .inr (.inr (.inr (.inl f37)))))] H := hP
                have hD : va_D A [(h0, .inr (10, fs0)), (a0, .inl (T 0, 4, .inl (upd f34 3 x2))), (a1, .inl (T 0, 4, .inl (upd f35 3 x3))), (a2, .inl (T 1, 120, .inr (.inl f36))), (a3, .inl (T 3, 120, .inr (.inr (.inr (.inl f37)))))] := hD
                refine lv_iconst (v := 0) hx hb dX13_sheet_67 (by decide) ?_
                refine lv_istore (lv' := [(4, .int 0), (0, .ref h0), (1, .int 3), (2, .int x2), (3, .int x3)]) hx hb dX13_sheet_68 hl (by decide) rfl (fun ls hl => ?_)
                refine loopW (σ := (Int32) × (Nat → Int64) × (Nat → UInt64)) (fun x9 ls H locs => lv_has ls 5 [(4, .int x9.1), (0, .ref h0), (1, .int 3), (2, .int x2), (3, .int x3)] ∧ va_P D vwCl [(h0, .inr (10, fs0)), (a0, .inl (T 0, 4, .inl (upd f34 3 x2))), (a1, .inl (T 0, 4, .inl (upd f35 3 x3))), (a2, .inl (T 1, 120, .inr (.inl x9.2.1))), (a3, .inl (T 3, 120, .inr (.inr (.inr (.inl x9.2.2)))))] H ∧ va_D A [(h0, .inr (10, fs0)), (a0, .inl (T 0, 4, .inl (upd f34 3 x2))), (a1, .inl (T 0, 4, .inl (upd f35 3 x3))), (a2, .inl (T 1, 120, .inr (.inl x9.2.1))), (a3, .inl (T 3, 120, .inr (.inr (.inr (.inl x9.2.2)))))] ∧ va_S A s.heap H locs ∧ (0 ≤ x9.1.toInt)) (fun x9 => (30 - x9.1.toInt).toNat) (fun x9 ls H locs hI ih => ?_) (0, f36, f37) ls ⟨lv_sub hl [0, 1, 2, 3, 4] rfl, hP.sub [0, 1, 2, 3, 4] rfl, hD.sub [0, 1, 2, 3, 4] (by decide) rfl, hS, (by (try dsimp only); decide)⟩
                obtain ⟨ii, f36, f37⟩ := x9
                obtain ⟨hl, hP, hD, hS, hinv⟩ := hI
                have hl : lv_has ls 5 [(4, .int ii), (0, .ref h0), (1, .int 3), (2, .int x2), (3, .int x3)] := hl
                have hP : va_P D vwCl [(h0, .inr (10, fs0)), (a0, .inl (T 0, 4, .inl (upd f34 3 x2))), (a1, .inl (T 0, 4, .inl (upd f35 3 x3))), (a2, .inl (T 1, 120, .inr (.inl f36))), (a3, .inl (T 3, 120, .inr (.inr (.inr (.inl f37)))))] H := hP
                have hD : va_D A [(h0, .inr (10, fs0)), (a0, .inl (T 0, 4, .inl (upd f34 3 x2))), (a1, .inl (T 0, 4, .inl (upd f35 3 x3))), (a2, .inl (T 1, 120, .inr (.inl f36))), (a3, .inl (T 3, 120, .inr (.inr (.inr (.inl f37)))))] := hD
                have hinv : 0 ≤ ii.toInt := hinv
                refine lv_iload hx hb dX13_sheet_70 (lv_at hl 0 rfl) ?_
                refine lv_bipush (v := 30) hx hb dX13_sheet_72 (by decide) ?_
                refine lv_icmp_ge (tgt := 109) hx hb dX13_sheet_74 (by decide) (fun c_72 => ?_) (fun c_72 => ?_)
                · rw [fa_le] at c_72
                  try rw [ti_30] at c_72
                  refine lv_iconst (v := 1) hx hb dX13_sheet_109 (by decide) ?_
                  exact W.iret hx hb hr (fun t ht hW => ⟨⟨_, (), rfl, (by first | decide | (unfold sp_sheet; (repeat' split) <;> first | rfl | (exfalso; omega))), by rw [ht]; exact hP.sub [] rfl, hD.sub [] (by decide) rfl⟩, hS.F ht⟩) hS.2.2 dX13_sheet_110
                · rw [fa_le] at c_72
                  try rw [ti_30] at c_72
                  refine lv_aload_n hx hb dX13_sheet_77 rfl (lv_at hl 1 rfl) ?_
                  refine va_get (D := D) (ci := 10) (v := .ref a2) (C := RX13) (T := TX13) (N := 45) hx hb hts in_X13_sheet_X13 hown hE.1 hP 0 rfl rfl 36 (by decide) (hts (.fieldLink RX13 110 "ClauseBookModel" "whole" "[J") (List.mem_of_getElem? (i := 5) rfl)) (fun _ h9 => h9) e0_36 dX13_sheet_78 ?_
                  refine lv_bipush (v := 30) hx hb dX13_sheet_81 (by decide) ?_
                  refine lv_iload_n hx hb dX13_sheet_83 rfl (lv_at hl 2 rfl) ?_
                  refine lv_imul hx hb dX13_sheet_84 ?_
                  refine lv_topi (fun z_73 ez_73 => ?_)
                  obtain rfl : z_73 = 90 := ez_73.trans (by decide)
                  refine lv_iload hx hb dX13_sheet_85 (lv_at hl 0 rfl) ?_
                  refine lv_iadd hx hb dX13_sheet_87 ?_
                  refine lv_lconst (v := 0) hx hb dX13_sheet_88 (by decide) ?_
                  refine va_last hx hb hE.1 hP hD hS 3 1 rfl rfl (by rw [vp_in_iff, fb_addI (by rw [ti_90]; omega) (by rw [ti_90]; omega), ti_90]; omega) dX13_sheet_89 (fun H locs hP hD hS => ?_)
                  have hP : va_P D vwCl [(h0, .inr (10, fs0)), (a0, .inl (T 0, 4, .inl (upd f34 3 x2))), (a1, .inl (T 0, 4, .inl (upd f35 3 x3))), (a2, .inl (T 1, 120, .inr (.inl (vp_updL f36 ((90 + ii).toNatClampNeg) 0)))), (a3, .inl (T 3, 120, .inr (.inr (.inr (.inl f37)))))] H := hP
                  have hD : va_D A [(h0, .inr (10, fs0)), (a0, .inl (T 0, 4, .inl (upd f34 3 x2))), (a1, .inl (T 0, 4, .inl (upd f35 3 x3))), (a2, .inl (T 1, 120, .inr (.inl (vp_updL f36 ((90 + ii).toNatClampNeg) 0)))), (a3, .inl (T 3, 120, .inr (.inr (.inr (.inl f37)))))] := hD
                  refine lv_aload_n hx hb dX13_sheet_90 rfl (lv_at hl 1 rfl) ?_
                  refine va_get (D := D) (ci := 10) (v := .ref a3) (C := RX13) (T := TX13) (N := 45) hx hb hts in_X13_sheet_X13 hown hE.1 hP 0 rfl rfl 37 (by decide) (hts (.fieldLink RX13 113 "ClauseBookModel" "host" "[D") (List.mem_of_getElem? (i := 6) rfl)) (fun _ h9 => h9) e0_37 dX13_sheet_91 ?_
                  refine lv_bipush (v := 30) hx hb dX13_sheet_94 (by decide) ?_
                  refine lv_iload_n hx hb dX13_sheet_96 rfl (lv_at hl 2 rfl) ?_
                  refine lv_imul hx hb dX13_sheet_97 ?_
                  refine lv_topi (fun z_74 ez_74 => ?_)
                  obtain rfl : z_74 = 90 := ez_74.trans (by decide)
                  refine lv_iload hx hb dX13_sheet_98 (lv_at hl 0 rfl) ?_
                  refine lv_iadd hx hb dX13_sheet_100 ?_
                  refine lv_dconst0 hx hb dX13_sheet_101 ?_
                  refine va_dast hx hb hE.1 hP hD hS 4 3 rfl rfl (by rw [vp_in_iff, fb_addI (by rw [ti_90]; omega) (by rw [ti_90]; omega), ti_90]; omega) dX13_sheet_102 (fun H locs hP hD hS => ?_)
                  have hP : va_P D vwCl [(h0, .inr (10, fs0)), (a0, .inl (T 0, 4, .inl (upd f34 3 x2))), (a1, .inl (T 0, 4, .inl (upd f35 3 x3))), (a2, .inl (T 1, 120, .inr (.inl (vp_updL f36 ((90 + ii).toNatClampNeg) 0)))), (a3, .inl (T 3, 120, .inr (.inr (.inr (.inl (vf_upd f37 ((90 + ii).toNatClampNeg) FP.dconst0))))))] H := hP
                  have hD : va_D A [(h0, .inr (10, fs0)), (a0, .inl (T 0, 4, .inl (upd f34 3 x2))), (a1, .inl (T 0, 4, .inl (upd f35 3 x3))), (a2, .inl (T 1, 120, .inr (.inl (vp_updL f36 ((90 + ii).toNatClampNeg) 0)))), (a3, .inl (T 3, 120, .inr (.inr (.inr (.inl (vf_upd f37 ((90 + ii).toNatClampNeg) FP.dconst0))))))] := hD
                  obtain ⟨z_75, ez_75⟩ : ∃ y : Int32, y = ii + 1 := ⟨_, rfl⟩
                  refine lv_iinc (v := z_75) (lv' := [(4, .int z_75), (0, .ref h0), (1, .int 3), (2, .int x2), (3, .int x3)]) hx hb dX13_sheet_103 hl (k := 0) rfl (by rw [ez_75]; rfl) (by decide) rfl (fun ls hl => ?_)
                  refine lv_goto (tgt := 70) hx hb dX13_sheet_106 (by decide) ?_
                  exact ih (z_75, (vp_updL f36 ((90 + ii).toNatClampNeg) 0), (vf_upd f37 ((90 + ii).toNatClampNeg) FP.dconst0)) ls _ _ ⟨lv_sub hl [0, 1, 2, 3, 4] rfl, hP.sub [0, 1, 2, 3, 4] rfl, hD.sub [0, 1, 2, 3, 4] (by decide) rfl, hS, (by subst_vars; (try dsimp only); rw [inc1 (n := 30) (by omega) (by decide)]; omega)⟩ (by subst_vars; (try dsimp only); rw [inc1 (n := 30) (by omega) (by decide)]; omega)
              · rw [fa_le] at c_71
                try rw [ti_0] at c_71
                refine lv_iconst (v := 0) hx hb dX13_sheet_61 (by decide) ?_
                refine lv_goto (tgt := 66) hx hb dX13_sheet_62 (by decide) ?_
                refine va_iast hx hb hE.1 hP hD hS 2 0 rfl rfl (by unfold vp_in; decide) dX13_sheet_66 (fun H locs hP hD hS => ?_)
                have hP : va_P D vwCl [(h0, .inr (10, fs0)), (a0, .inl (T 0, 4, .inl (upd f34 3 x2))), (a1, .inl (T 0, 4, .inl (upd f35 3 0))), (a2, .inl (T 1, 120, .inr (.inl f36))), (a3, .inl (T 3, 120, .inr (.inr (.inr (.inl f37)))))] H := hP
                have hD : va_D A [(h0, .inr (10, fs0)), (a0, .inl (T 0, 4, .inl (upd f34 3 x2))), (a1, .inl (T 0, 4, .inl (upd f35 3 0))), (a2, .inl (T 1, 120, .inr (.inl f36))), (a3, .inl (T 3, 120, .inr (.inr (.inr (.inl f37)))))] := hD
                refine lv_iconst (v := 0) hx hb dX13_sheet_67 (by decide) ?_
                refine lv_istore (lv' := [(4, .int 0), (0, .ref h0), (1, .int 3), (2, .int x2), (3, .int x3)]) hx hb dX13_sheet_68 hl (by decide) rfl (fun ls hl => ?_)
                refine loopW (σ := (Int32) × (Nat → Int64) × (Nat → UInt64)) (fun x9 ls H locs => lv_has ls 5 [(4, .int x9.1), (0, .ref h0), (1, .int 3), (2, .int x2), (3, .int x3)] ∧ va_P D vwCl [(h0, .inr (10, fs0)), (a0, .inl (T 0, 4, .inl (upd f34 3 x2))), (a1, .inl (T 0, 4, .inl (upd f35 3 0))), (a2, .inl (T 1, 120, .inr (.inl x9.2.1))), (a3, .inl (T 3, 120, .inr (.inr (.inr (.inl x9.2.2)))))] H ∧ va_D A [(h0, .inr (10, fs0)), (a0, .inl (T 0, 4, .inl (upd f34 3 x2))), (a1, .inl (T 0, 4, .inl (upd f35 3 0))), (a2, .inl (T 1, 120, .inr (.inl x9.2.1))), (a3, .inl (T 3, 120, .inr (.inr (.inr (.inl x9.2.2)))))] ∧ va_S A s.heap H locs ∧ (0 ≤ x9.1.toInt)) (fun x9 => (30 - x9.1.toInt).toNat) (fun x9 ls H locs hI ih => ?_) (0, f36, f37) ls ⟨lv_sub hl [0, 1, 2, 3, 4] rfl, hP.sub [0, 1, 2, 3, 4] rfl, hD.sub [0, 1, 2, 3, 4] (by decide) rfl, hS, (by (try dsimp only); decide)⟩
                obtain ⟨ii, f36, f37⟩ := x9
                obtain ⟨hl, hP, hD, hS, hinv⟩ := hI
                have hl : lv_has ls 5 [(4, .int ii), (0, .ref h0), (1, .int 3), (2, .int x2), (3, .int x3)] := hl
                have hP : va_P D vwCl [(h0, .inr (10, fs0)), (a0, .inl (T 0, 4, .inl (upd f34 3 x2))), (a1, .inl (T 0, 4, .inl (upd f35 3 0))), (a2, .inl (T 1, 120, .inr (.inl f36))), (a3, .inl (T 3, 120, .inr (.inr (.inr (.inl f37)))))] H := hP
                have hD : va_D A [(h0, .inr (10, fs0)), (a0, .inl (T 0, 4, .inl (upd f34 3 x2))), (a1, .inl (T 0, 4, .inl (upd f35 3 0))), (a2, .inl (T 1, 120, .inr (.inl f36))), (a3, .inl (T 3, 120, .inr (.inr (.inr (.inl f37)))))] := hD
                have hinv : 0 ≤ ii.toInt := hinv
                refine lv_iload hx hb dX13_sheet_70 (lv_at hl 0 rfl) ?_
                refine lv_bipush (v := 30) hx hb dX13_sheet_72 (by decide) ?_
                refine lv_icmp_ge (tgt := 109) hx hb dX13_sheet_74 (by decide) (fun c_76 => ?_) (fun c_76 => ?_)
                · rw [fa_le] at c_76
                  try rw [ti_30] at c_76
                  refine lv_iconst (v := 1) hx hb dX13_sheet_109 (by decide) ?_
                  exact W.iret hx hb hr (fun t ht hW => ⟨⟨_, (), rfl, (by first | decide | (unfold sp_sheet; (repeat' split) <;> first | rfl | (exfalso; omega))), by rw [ht]; exact hP.sub [] rfl, hD.sub [] (by decide) rfl⟩, hS.F ht⟩) hS.2.2 dX13_sheet_110
                · rw [fa_le] at c_76
                  try rw [ti_30] at c_76
                  refine lv_aload_n hx hb dX13_sheet_77 rfl (lv_at hl 1 rfl) ?_
                  refine va_get (D := D) (ci := 10) (v := .ref a2) (C := RX13) (T := TX13) (N := 45) hx hb hts in_X13_sheet_X13 hown hE.1 hP 0 rfl rfl 36 (by decide) (hts (.fieldLink RX13 110 "ClauseBookModel" "whole" "[J") (List.mem_of_getElem? (i := 5) rfl)) (fun _ h9 => h9) e0_36 dX13_sheet_78 ?_
                  refine lv_bipush (v := 30) hx hb dX13_sheet_81 (by decide) ?_
                  refine lv_iload_n hx hb dX13_sheet_83 rfl (lv_at hl 2 rfl) ?_
                  refine lv_imul hx hb dX13_sheet_84 ?_
                  refine lv_topi (fun z_77 ez_77 => ?_)
                  obtain rfl : z_77 = 90 := ez_77.trans (by decide)
                  refine lv_iload hx hb dX13_sheet_85 (lv_at hl 0 rfl) ?_
                  refine lv_iadd hx hb dX13_sheet_87 ?_
                  refine lv_lconst (v := 0) hx hb dX13_sheet_88 (by decide) ?_
                  refine va_last hx hb hE.1 hP hD hS 3 1 rfl rfl (by rw [vp_in_iff, fb_addI (by rw [ti_90]; omega) (by rw [ti_90]; omega), ti_90]; omega) dX13_sheet_89 (fun H locs hP hD hS => ?_)
                  have hP : va_P D vwCl [(h0, .inr (10, fs0)), (a0, .inl (T 0, 4, .inl (upd f34 3 x2))), (a1, .inl (T 0, 4, .inl (upd f35 3 0))), (a2, .inl (T 1, 120, .inr (.inl (vp_updL f36 ((90 + ii).toNatClampNeg) 0)))), (a3, .inl (T 3, 120, .inr (.inr (.inr (.inl f37)))))] H := hP
                  have hD : va_D A [(h0, .inr (10, fs0)), (a0, .inl (T 0, 4, .inl (upd f34 3 x2))), (a1, .inl (T 0, 4, .inl (upd f35 3 0))), (a2, .inl (T 1, 120, .inr (.inl (vp_updL f36 ((90 + ii).toNatClampNeg) 0)))), (a3, .inl (T 3, 120, .inr (.inr (.inr (.inl f37)))))] := hD
                  refine lv_aload_n hx hb dX13_sheet_90 rfl (lv_at hl 1 rfl) ?_
                  refine va_get (D := D) (ci := 10) (v := .ref a3) (C := RX13) (T := TX13) (N := 45) hx hb hts in_X13_sheet_X13 hown hE.1 hP 0 rfl rfl 37 (by decide) (hts (.fieldLink RX13 113 "ClauseBookModel" "host" "[D") (List.mem_of_getElem? (i := 6) rfl)) (fun _ h9 => h9) e0_37 dX13_sheet_91 ?_
                  refine lv_bipush (v := 30) hx hb dX13_sheet_94 (by decide) ?_
                  refine lv_iload_n hx hb dX13_sheet_96 rfl (lv_at hl 2 rfl) ?_
                  refine lv_imul hx hb dX13_sheet_97 ?_
                  refine lv_topi (fun z_78 ez_78 => ?_)
                  obtain rfl : z_78 = 90 := ez_78.trans (by decide)
                  refine lv_iload hx hb dX13_sheet_98 (lv_at hl 0 rfl) ?_
                  refine lv_iadd hx hb dX13_sheet_100 ?_
                  refine lv_dconst0 hx hb dX13_sheet_101 ?_
                  refine va_dast hx hb hE.1 hP hD hS 4 3 rfl rfl (by rw [vp_in_iff, fb_addI (by rw [ti_90]; omega) (by rw [ti_90]; omega), ti_90]; omega) dX13_sheet_102 (fun H locs hP hD hS => ?_)
                  have hP : va_P D vwCl [(h0, .inr (10, fs0)), (a0, .inl (T 0, 4, .inl (upd f34 3 x2))), (a1, .inl (T 0, 4, .inl (upd f35 3 0))), (a2, .inl (T 1, 120, .inr (.inl (vp_updL f36 ((90 + ii).toNatClampNeg) 0)))), (a3, .inl (T 3, 120, .inr (.inr (.inr (.inl (vf_upd f37 ((90 + ii).toNatClampNeg) FP.dconst0))))))] H := hP
                  have hD : va_D A [(h0, .inr (10, fs0)), (a0, .inl (T 0, 4, .inl (upd f34 3 x2))), (a1, .inl (T 0, 4, .inl (upd f35 3 0))), (a2, .inl (T 1, 120, .inr (.inl (vp_updL f36 ((90 + ii).toNatClampNeg) 0)))), (a3, .inl (T 3, 120, .inr (.inr (.inr (.inl (vf_upd f37 ((90 + ii).toNatClampNeg) FP.dconst0))))))] := hD
                  obtain ⟨z_79, ez_79⟩ : ∃ y : Int32, y = ii + 1 := ⟨_, rfl⟩
                  refine lv_iinc (v := z_79) (lv' := [(4, .int z_79), (0, .ref h0), (1, .int 3), (2, .int x2), (3, .int x3)]) hx hb dX13_sheet_103 hl (k := 0) rfl (by rw [ez_79]; rfl) (by decide) rfl (fun ls hl => ?_)
                  refine lv_goto (tgt := 70) hx hb dX13_sheet_106 (by decide) ?_
                  exact ih (z_79, (vp_updL f36 ((90 + ii).toNatClampNeg) 0), (vf_upd f37 ((90 + ii).toNatClampNeg) FP.dconst0)) ls _ _ ⟨lv_sub hl [0, 1, 2, 3, 4] rfl, hP.sub [0, 1, 2, 3, 4] rfl, hD.sub [0, 1, 2, 3, 4] (by decide) rfl, hS, (by subst_vars; (try dsimp only); rw [inc1 (n := 30) (by omega) (by decide)]; omega)⟩ (by subst_vars; (try dsimp only); rw [inc1 (n := 30) (by omega) (by decide)]; omega)
          · rw [fa_le] at c_43
            try rw [ti_0] at c_43
            refine lv_bipush (v := (-14)) hx hb dX13_sheet_42 (by decide) ?_
            exact W.iret hx hb hr (fun t ht hW => ⟨⟨_, (), rfl, (by first | decide | (unfold sp_sheet; (repeat' split) <;> first | rfl | (exfalso; omega))), by rw [ht]; exact hP.sub [] rfl, hD.sub [] (by decide) rfl⟩, hS.F ht⟩) hS.2.2 dX13_sheet_44
      · rw [fa_lt] at c_5
        try rw [ti_0] at c_5
        refine lv_iload_n hx hb dX13_sheet_25 rfl (lv_at hl 3 rfl) ?_
        refine lv_bipush (v := 30) hx hb dX13_sheet_26 (by decide) ?_
        refine lv_icmp_le (tgt := 34) hx hb dX13_sheet_28 (by decide) (fun c_80 => ?_) (fun c_80 => ?_)
        · rw [fa_le] at c_80
          try rw [ti_30] at c_80
          refine lv_iload_n hx hb dX13_sheet_34 rfl (lv_at hl 2 rfl) ?_
          refine lv_if_lt (tgt := 45) hx hb dX13_sheet_35 (by decide) (fun c_81 => ?_) (fun c_81 => ?_)
          · rw [fa_lt] at c_81
            try rw [ti_0] at c_81
            rcases in4 (x := x1) (by omega) with rfl | rfl | rfl | rfl
            · refine lv_aload_n hx hb dX13_sheet_45 rfl (lv_at hl 0 rfl) ?_
              refine va_get (D := D) (ci := 10) (v := .ref a0) (C := RX13) (T := TX13) (N := 45) hx hb hts in_X13_sheet_X13 hown hE.1 hP 0 rfl rfl 34 (by decide) (hts (.fieldLink RX13 104 "ClauseBookModel" "sorts" "[I") (List.mem_of_getElem? (i := 3) rfl)) (fun _ h9 => h9) e0_34 dX13_sheet_46 ?_
              refine lv_iload_n hx hb dX13_sheet_49 rfl (lv_at hl 1 rfl) ?_
              refine lv_iload_n hx hb dX13_sheet_50 rfl (lv_at hl 2 rfl) ?_
              refine va_iast hx hb hE.1 hP hD hS 1 0 rfl rfl (by unfold vp_in; decide) dX13_sheet_51 (fun H locs hP hD hS => ?_)
              have hP : va_P D vwCl [(h0, .inr (10, fs0)), (a0, .inl (T 0, 4, .inl (upd f34 0 x2))), (a1, .inl (T 0, 4, .inl f35)), (a2, .inl (T 1, 120, .inr (.inl f36))), (a3, .inl (T 3, 120, .inr (.inr (.inr (.inl f37)))))] H := hP
              have hD : va_D A [(h0, .inr (10, fs0)), (a0, .inl (T 0, 4, .inl (upd f34 0 x2))), (a1, .inl (T 0, 4, .inl f35)), (a2, .inl (T 1, 120, .inr (.inl f36))), (a3, .inl (T 3, 120, .inr (.inr (.inr (.inl f37)))))] := hD
              refine lv_aload_n hx hb dX13_sheet_52 rfl (lv_at hl 0 rfl) ?_
              refine va_get (D := D) (ci := 10) (v := .ref a1) (C := RX13) (T := TX13) (N := 45) hx hb hts in_X13_sheet_X13 hown hE.1 hP 0 rfl rfl 35 (by decide) (hts (.fieldLink RX13 107 "ClauseBookModel" "sizes" "[I") (List.mem_of_getElem? (i := 4) rfl)) (fun _ h9 => h9) e0_35 dX13_sheet_53 ?_
              refine lv_iload_n hx hb dX13_sheet_56 rfl (lv_at hl 1 rfl) ?_
              refine lv_iload_n hx hb dX13_sheet_57 rfl (lv_at hl 2 rfl) ?_
              refine lv_if_ge (tgt := 65) hx hb dX13_sheet_58 (by decide) (fun c_82 => ?_) (fun c_82 => ?_)
              · rw [fa_le] at c_82
                try rw [ti_0] at c_82
                refine lv_iload_n hx hb dX13_sheet_65 rfl (lv_at hl 3 rfl) ?_
                refine va_iast hx hb hE.1 hP hD hS 2 0 rfl rfl (by unfold vp_in; decide) dX13_sheet_66 (fun H locs hP hD hS => ?_)
                have hP : va_P D vwCl [(h0, .inr (10, fs0)), (a0, .inl (T 0, 4, .inl (upd f34 0 x2))), (a1, .inl (T 0, 4, .inl (upd f35 0 x3))), (a2, .inl (T 1, 120, .inr (.inl f36))), (a3, .inl (T 3, 120, .inr (.inr (.inr (.inl f37)))))] H := hP
                have hD : va_D A [(h0, .inr (10, fs0)), (a0, .inl (T 0, 4, .inl (upd f34 0 x2))), (a1, .inl (T 0, 4, .inl (upd f35 0 x3))), (a2, .inl (T 1, 120, .inr (.inl f36))), (a3, .inl (T 3, 120, .inr (.inr (.inr (.inl f37)))))] := hD
                refine lv_iconst (v := 0) hx hb dX13_sheet_67 (by decide) ?_
                refine lv_istore (lv' := [(4, .int 0), (0, .ref h0), (1, .int 0), (2, .int x2), (3, .int x3)]) hx hb dX13_sheet_68 hl (by decide) rfl (fun ls hl => ?_)
                refine loopW (σ := (Int32) × (Nat → Int64) × (Nat → UInt64)) (fun x9 ls H locs => lv_has ls 5 [(4, .int x9.1), (0, .ref h0), (1, .int 0), (2, .int x2), (3, .int x3)] ∧ va_P D vwCl [(h0, .inr (10, fs0)), (a0, .inl (T 0, 4, .inl (upd f34 0 x2))), (a1, .inl (T 0, 4, .inl (upd f35 0 x3))), (a2, .inl (T 1, 120, .inr (.inl x9.2.1))), (a3, .inl (T 3, 120, .inr (.inr (.inr (.inl x9.2.2)))))] H ∧ va_D A [(h0, .inr (10, fs0)), (a0, .inl (T 0, 4, .inl (upd f34 0 x2))), (a1, .inl (T 0, 4, .inl (upd f35 0 x3))), (a2, .inl (T 1, 120, .inr (.inl x9.2.1))), (a3, .inl (T 3, 120, .inr (.inr (.inr (.inl x9.2.2)))))] ∧ va_S A s.heap H locs ∧ (0 ≤ x9.1.toInt)) (fun x9 => (30 - x9.1.toInt).toNat) (fun x9 ls H locs hI ih => ?_) (0, f36, f37) ls ⟨lv_sub hl [0, 1, 2, 3, 4] rfl, hP.sub [0, 1, 2, 3, 4] rfl, hD.sub [0, 1, 2, 3, 4] (by decide) rfl, hS, (by (try dsimp only); decide)⟩
                obtain ⟨ii, f36, f37⟩ := x9
                obtain ⟨hl, hP, hD, hS, hinv⟩ := hI
                have hl : lv_has ls 5 [(4, .int ii), (0, .ref h0), (1, .int 0), (2, .int x2), (3, .int x3)] := hl
                have hP : va_P D vwCl [(h0, .inr (10, fs0)), (a0, .inl (T 0, 4, .inl (upd f34 0 x2))), (a1, .inl (T 0, 4, .inl (upd f35 0 x3))), (a2, .inl (T 1, 120, .inr (.inl f36))), (a3, .inl (T 3, 120, .inr (.inr (.inr (.inl f37)))))] H := hP
                have hD : va_D A [(h0, .inr (10, fs0)), (a0, .inl (T 0, 4, .inl (upd f34 0 x2))), (a1, .inl (T 0, 4, .inl (upd f35 0 x3))), (a2, .inl (T 1, 120, .inr (.inl f36))), (a3, .inl (T 3, 120, .inr (.inr (.inr (.inl f37)))))] := hD
                have hinv : 0 ≤ ii.toInt := hinv
                refine lv_iload hx hb dX13_sheet_70 (lv_at hl 0 rfl) ?_
                refine lv_bipush (v := 30) hx hb dX13_sheet_72 (by decide) ?_
                refine lv_icmp_ge (tgt := 109) hx hb dX13_sheet_74 (by decide) (fun c_83 => ?_) (fun c_83 => ?_)
                · rw [fa_le] at c_83
                  try rw [ti_30] at c_83
                  refine lv_iconst (v := 1) hx hb dX13_sheet_109 (by decide) ?_
                  exact W.iret hx hb hr (fun t ht hW => ⟨⟨_, (), rfl, (by first | decide | (unfold sp_sheet; (repeat' split) <;> first | rfl | (exfalso; omega))), by rw [ht]; exact hP.sub [] rfl, hD.sub [] (by decide) rfl⟩, hS.F ht⟩) hS.2.2 dX13_sheet_110
                · rw [fa_le] at c_83
                  try rw [ti_30] at c_83
                  refine lv_aload_n hx hb dX13_sheet_77 rfl (lv_at hl 1 rfl) ?_
                  refine va_get (D := D) (ci := 10) (v := .ref a2) (C := RX13) (T := TX13) (N := 45) hx hb hts in_X13_sheet_X13 hown hE.1 hP 0 rfl rfl 36 (by decide) (hts (.fieldLink RX13 110 "ClauseBookModel" "whole" "[J") (List.mem_of_getElem? (i := 5) rfl)) (fun _ h9 => h9) e0_36 dX13_sheet_78 ?_
                  refine lv_bipush (v := 30) hx hb dX13_sheet_81 (by decide) ?_
                  refine lv_iload_n hx hb dX13_sheet_83 rfl (lv_at hl 2 rfl) ?_
                  refine lv_imul hx hb dX13_sheet_84 ?_
                  refine lv_topi (fun z_84 ez_84 => ?_)
                  obtain rfl : z_84 = 0 := ez_84.trans (by decide)
                  refine lv_iload hx hb dX13_sheet_85 (lv_at hl 0 rfl) ?_
                  refine lv_iadd hx hb dX13_sheet_87 ?_
                  refine lv_lconst (v := 0) hx hb dX13_sheet_88 (by decide) ?_
                  refine va_last hx hb hE.1 hP hD hS 3 1 rfl rfl (by rw [vp_in_iff, fb_addI (by rw [ti_0]; omega) (by rw [ti_0]; omega), ti_0]; omega) dX13_sheet_89 (fun H locs hP hD hS => ?_)
                  have hP : va_P D vwCl [(h0, .inr (10, fs0)), (a0, .inl (T 0, 4, .inl (upd f34 0 x2))), (a1, .inl (T 0, 4, .inl (upd f35 0 x3))), (a2, .inl (T 1, 120, .inr (.inl (vp_updL f36 ((0 + ii).toNatClampNeg) 0)))), (a3, .inl (T 3, 120, .inr (.inr (.inr (.inl f37)))))] H := hP
                  have hD : va_D A [(h0, .inr (10, fs0)), (a0, .inl (T 0, 4, .inl (upd f34 0 x2))), (a1, .inl (T 0, 4, .inl (upd f35 0 x3))), (a2, .inl (T 1, 120, .inr (.inl (vp_updL f36 ((0 + ii).toNatClampNeg) 0)))), (a3, .inl (T 3, 120, .inr (.inr (.inr (.inl f37)))))] := hD
                  refine lv_aload_n hx hb dX13_sheet_90 rfl (lv_at hl 1 rfl) ?_
                  refine va_get (D := D) (ci := 10) (v := .ref a3) (C := RX13) (T := TX13) (N := 45) hx hb hts in_X13_sheet_X13 hown hE.1 hP 0 rfl rfl 37 (by decide) (hts (.fieldLink RX13 113 "ClauseBookModel" "host" "[D") (List.mem_of_getElem? (i := 6) rfl)) (fun _ h9 => h9) e0_37 dX13_sheet_91 ?_
                  refine lv_bipush (v := 30) hx hb dX13_sheet_94 (by decide) ?_
                  refine lv_iload_n hx hb dX13_sheet_96 rfl (lv_at hl 2 rfl) ?_
                  refine lv_imul hx hb dX13_sheet_97 ?_
                  refine lv_topi (fun z_85 ez_85 => ?_)
                  obtain rfl : z_85 = 0 := ez_85.trans (by decide)
                  refine lv_iload hx hb dX13_sheet_98 (lv_at hl 0 rfl) ?_
                  refine lv_iadd hx hb dX13_sheet_100 ?_
                  refine lv_dconst0 hx hb dX13_sheet_101 ?_
                  refine va_dast hx hb hE.1 hP hD hS 4 3 rfl rfl (by rw [vp_in_iff, fb_addI (by rw [ti_0]; omega) (by rw [ti_0]; omega), ti_0]; omega) dX13_sheet_102 (fun H locs hP hD hS => ?_)
                  have hP : va_P D vwCl [(h0, .inr (10, fs0)), (a0, .inl (T 0, 4, .inl (upd f34 0 x2))), (a1, .inl (T 0, 4, .inl (upd f35 0 x3))), (a2, .inl (T 1, 120, .inr (.inl (vp_updL f36 ((0 + ii).toNatClampNeg) 0)))), (a3, .inl (T 3, 120, .inr (.inr (.inr (.inl (vf_upd f37 ((0 + ii).toNatClampNeg) FP.dconst0))))))] H := hP
                  have hD : va_D A [(h0, .inr (10, fs0)), (a0, .inl (T 0, 4, .inl (upd f34 0 x2))), (a1, .inl (T 0, 4, .inl (upd f35 0 x3))), (a2, .inl (T 1, 120, .inr (.inl (vp_updL f36 ((0 + ii).toNatClampNeg) 0)))), (a3, .inl (T 3, 120, .inr (.inr (.inr (.inl (vf_upd f37 ((0 + ii).toNatClampNeg) FP.dconst0))))))] := hD
                  obtain ⟨z_86, ez_86⟩ : ∃ y : Int32, y = ii + 1 := ⟨_, rfl⟩
                  refine lv_iinc (v := z_86) (lv' := [(4, .int z_86), (0, .ref h0), (1, .int 0), (2, .int x2), (3, .int x3)]) hx hb dX13_sheet_103 hl (k := 0) rfl (by rw [ez_86]; rfl) (by decide) rfl (fun ls hl => ?_)
                  refine lv_goto (tgt := 70) hx hb dX13_sheet_106 (by decide) ?_
                  exact ih (z_86, (vp_updL f36 ((0 + ii).toNatClampNeg) 0), (vf_upd f37 ((0 + ii).toNatClampNeg) FP.dconst0)) ls _ _ ⟨lv_sub hl [0, 1, 2, 3, 4] rfl, hP.sub [0, 1, 2, 3, 4] rfl, hD.sub [0, 1, 2, 3, 4] (by decide) rfl, hS, (by subst_vars; (try dsimp only); rw [inc1 (n := 30) (by omega) (by decide)]; omega)⟩ (by subst_vars; (try dsimp only); rw [inc1 (n := 30) (by omega) (by decide)]; omega)
              · rw [fa_le] at c_82
                try rw [ti_0] at c_82
                refine lv_iconst (v := 0) hx hb dX13_sheet_61 (by decide) ?_
                refine lv_goto (tgt := 66) hx hb dX13_sheet_62 (by decide) ?_
                refine va_iast hx hb hE.1 hP hD hS 2 0 rfl rfl (by unfold vp_in; decide) dX13_sheet_66 (fun H locs hP hD hS => ?_)
                have hP : va_P D vwCl [(h0, .inr (10, fs0)), (a0, .inl (T 0, 4, .inl (upd f34 0 x2))), (a1, .inl (T 0, 4, .inl (upd f35 0 0))), (a2, .inl (T 1, 120, .inr (.inl f36))), (a3, .inl (T 3, 120, .inr (.inr (.inr (.inl f37)))))] H := hP
                have hD : va_D A [(h0, .inr (10, fs0)), (a0, .inl (T 0, 4, .inl (upd f34 0 x2))), (a1, .inl (T 0, 4, .inl (upd f35 0 0))), (a2, .inl (T 1, 120, .inr (.inl f36))), (a3, .inl (T 3, 120, .inr (.inr (.inr (.inl f37)))))] := hD
                refine lv_iconst (v := 0) hx hb dX13_sheet_67 (by decide) ?_
                refine lv_istore (lv' := [(4, .int 0), (0, .ref h0), (1, .int 0), (2, .int x2), (3, .int x3)]) hx hb dX13_sheet_68 hl (by decide) rfl (fun ls hl => ?_)
                refine loopW (σ := (Int32) × (Nat → Int64) × (Nat → UInt64)) (fun x9 ls H locs => lv_has ls 5 [(4, .int x9.1), (0, .ref h0), (1, .int 0), (2, .int x2), (3, .int x3)] ∧ va_P D vwCl [(h0, .inr (10, fs0)), (a0, .inl (T 0, 4, .inl (upd f34 0 x2))), (a1, .inl (T 0, 4, .inl (upd f35 0 0))), (a2, .inl (T 1, 120, .inr (.inl x9.2.1))), (a3, .inl (T 3, 120, .inr (.inr (.inr (.inl x9.2.2)))))] H ∧ va_D A [(h0, .inr (10, fs0)), (a0, .inl (T 0, 4, .inl (upd f34 0 x2))), (a1, .inl (T 0, 4, .inl (upd f35 0 0))), (a2, .inl (T 1, 120, .inr (.inl x9.2.1))), (a3, .inl (T 3, 120, .inr (.inr (.inr (.inl x9.2.2)))))] ∧ va_S A s.heap H locs ∧ (0 ≤ x9.1.toInt)) (fun x9 => (30 - x9.1.toInt).toNat) (fun x9 ls H locs hI ih => ?_) (0, f36, f37) ls ⟨lv_sub hl [0, 1, 2, 3, 4] rfl, hP.sub [0, 1, 2, 3, 4] rfl, hD.sub [0, 1, 2, 3, 4] (by decide) rfl, hS, (by (try dsimp only); decide)⟩
                obtain ⟨ii, f36, f37⟩ := x9
                obtain ⟨hl, hP, hD, hS, hinv⟩ := hI
                have hl : lv_has ls 5 [(4, .int ii), (0, .ref h0), (1, .int 0), (2, .int x2), (3, .int x3)] := hl
                have hP : va_P D vwCl [(h0, .inr (10, fs0)), (a0, .inl (T 0, 4, .inl (upd f34 0 x2))), (a1, .inl (T 0, 4, .inl (upd f35 0 0))), (a2, .inl (T 1, 120, .inr (.inl f36))), (a3, .inl (T 3, 120, .inr (.inr (.inr (.inl f37)))))] H := hP
                have hD : va_D A [(h0, .inr (10, fs0)), (a0, .inl (T 0, 4, .inl (upd f34 0 x2))), (a1, .inl (T 0, 4, .inl (upd f35 0 0))), (a2, .inl (T 1, 120, .inr (.inl f36))), (a3, .inl (T 3, 120, .inr (.inr (.inr (.inl f37)))))] := hD
                have hinv : 0 ≤ ii.toInt := hinv
                refine lv_iload hx hb dX13_sheet_70 (lv_at hl 0 rfl) ?_
                refine lv_bipush (v := 30) hx hb dX13_sheet_72 (by decide) ?_
                refine lv_icmp_ge (tgt := 109) hx hb dX13_sheet_74 (by decide) (fun c_87 => ?_) (fun c_87 => ?_)
                · rw [fa_le] at c_87
                  try rw [ti_30] at c_87
                  refine lv_iconst (v := 1) hx hb dX13_sheet_109 (by decide) ?_
                  exact W.iret hx hb hr (fun t ht hW => ⟨⟨_, (), rfl, (by first | decide | (unfold sp_sheet; (repeat' split) <;> first | rfl | (exfalso; omega))), by rw [ht]; exact hP.sub [] rfl, hD.sub [] (by decide) rfl⟩, hS.F ht⟩) hS.2.2 dX13_sheet_110
                · rw [fa_le] at c_87
                  try rw [ti_30] at c_87
                  refine lv_aload_n hx hb dX13_sheet_77 rfl (lv_at hl 1 rfl) ?_
                  refine va_get (D := D) (ci := 10) (v := .ref a2) (C := RX13) (T := TX13) (N := 45) hx hb hts in_X13_sheet_X13 hown hE.1 hP 0 rfl rfl 36 (by decide) (hts (.fieldLink RX13 110 "ClauseBookModel" "whole" "[J") (List.mem_of_getElem? (i := 5) rfl)) (fun _ h9 => h9) e0_36 dX13_sheet_78 ?_
                  refine lv_bipush (v := 30) hx hb dX13_sheet_81 (by decide) ?_
                  refine lv_iload_n hx hb dX13_sheet_83 rfl (lv_at hl 2 rfl) ?_
                  refine lv_imul hx hb dX13_sheet_84 ?_
                  refine lv_topi (fun z_88 ez_88 => ?_)
                  obtain rfl : z_88 = 0 := ez_88.trans (by decide)
                  refine lv_iload hx hb dX13_sheet_85 (lv_at hl 0 rfl) ?_
                  refine lv_iadd hx hb dX13_sheet_87 ?_
                  refine lv_lconst (v := 0) hx hb dX13_sheet_88 (by decide) ?_
                  refine va_last hx hb hE.1 hP hD hS 3 1 rfl rfl (by rw [vp_in_iff, fb_addI (by rw [ti_0]; omega) (by rw [ti_0]; omega), ti_0]; omega) dX13_sheet_89 (fun H locs hP hD hS => ?_)
                  have hP : va_P D vwCl [(h0, .inr (10, fs0)), (a0, .inl (T 0, 4, .inl (upd f34 0 x2))), (a1, .inl (T 0, 4, .inl (upd f35 0 0))), (a2, .inl (T 1, 120, .inr (.inl (vp_updL f36 ((0 + ii).toNatClampNeg) 0)))), (a3, .inl (T 3, 120, .inr (.inr (.inr (.inl f37)))))] H := hP
                  have hD : va_D A [(h0, .inr (10, fs0)), (a0, .inl (T 0, 4, .inl (upd f34 0 x2))), (a1, .inl (T 0, 4, .inl (upd f35 0 0))), (a2, .inl (T 1, 120, .inr (.inl (vp_updL f36 ((0 + ii).toNatClampNeg) 0)))), (a3, .inl (T 3, 120, .inr (.inr (.inr (.inl f37)))))] := hD
                  refine lv_aload_n hx hb dX13_sheet_90 rfl (lv_at hl 1 rfl) ?_
                  refine va_get (D := D) (ci := 10) (v := .ref a3) (C := RX13) (T := TX13) (N := 45) hx hb hts in_X13_sheet_X13 hown hE.1 hP 0 rfl rfl 37 (by decide) (hts (.fieldLink RX13 113 "ClauseBookModel" "host" "[D") (List.mem_of_getElem? (i := 6) rfl)) (fun _ h9 => h9) e0_37 dX13_sheet_91 ?_
                  refine lv_bipush (v := 30) hx hb dX13_sheet_94 (by decide) ?_
                  refine lv_iload_n hx hb dX13_sheet_96 rfl (lv_at hl 2 rfl) ?_
                  refine lv_imul hx hb dX13_sheet_97 ?_
                  refine lv_topi (fun z_89 ez_89 => ?_)
                  obtain rfl : z_89 = 0 := ez_89.trans (by decide)
                  refine lv_iload hx hb dX13_sheet_98 (lv_at hl 0 rfl) ?_
                  refine lv_iadd hx hb dX13_sheet_100 ?_
                  refine lv_dconst0 hx hb dX13_sheet_101 ?_
                  refine va_dast hx hb hE.1 hP hD hS 4 3 rfl rfl (by rw [vp_in_iff, fb_addI (by rw [ti_0]; omega) (by rw [ti_0]; omega), ti_0]; omega) dX13_sheet_102 (fun H locs hP hD hS => ?_)
                  have hP : va_P D vwCl [(h0, .inr (10, fs0)), (a0, .inl (T 0, 4, .inl (upd f34 0 x2))), (a1, .inl (T 0, 4, .inl (upd f35 0 0))), (a2, .inl (T 1, 120, .inr (.inl (vp_updL f36 ((0 + ii).toNatClampNeg) 0)))), (a3, .inl (T 3, 120, .inr (.inr (.inr (.inl (vf_upd f37 ((0 + ii).toNatClampNeg) FP.dconst0))))))] H := hP
                  have hD : va_D A [(h0, .inr (10, fs0)), (a0, .inl (T 0, 4, .inl (upd f34 0 x2))), (a1, .inl (T 0, 4, .inl (upd f35 0 0))), (a2, .inl (T 1, 120, .inr (.inl (vp_updL f36 ((0 + ii).toNatClampNeg) 0)))), (a3, .inl (T 3, 120, .inr (.inr (.inr (.inl (vf_upd f37 ((0 + ii).toNatClampNeg) FP.dconst0))))))] := hD
                  obtain ⟨z_90, ez_90⟩ : ∃ y : Int32, y = ii + 1 := ⟨_, rfl⟩
                  refine lv_iinc (v := z_90) (lv' := [(4, .int z_90), (0, .ref h0), (1, .int 0), (2, .int x2), (3, .int x3)]) hx hb dX13_sheet_103 hl (k := 0) rfl (by rw [ez_90]; rfl) (by decide) rfl (fun ls hl => ?_)
                  refine lv_goto (tgt := 70) hx hb dX13_sheet_106 (by decide) ?_
                  exact ih (z_90, (vp_updL f36 ((0 + ii).toNatClampNeg) 0), (vf_upd f37 ((0 + ii).toNatClampNeg) FP.dconst0)) ls _ _ ⟨lv_sub hl [0, 1, 2, 3, 4] rfl, hP.sub [0, 1, 2, 3, 4] rfl, hD.sub [0, 1, 2, 3, 4] (by decide) rfl, hS, (by subst_vars; (try dsimp only); rw [inc1 (n := 30) (by omega) (by decide)]; omega)⟩ (by subst_vars; (try dsimp only); rw [inc1 (n := 30) (by omega) (by decide)]; omega)
            · refine lv_aload_n hx hb dX13_sheet_45 rfl (lv_at hl 0 rfl) ?_
              refine va_get (D := D) (ci := 10) (v := .ref a0) (C := RX13) (T := TX13) (N := 45) hx hb hts in_X13_sheet_X13 hown hE.1 hP 0 rfl rfl 34 (by decide) (hts (.fieldLink RX13 104 "ClauseBookModel" "sorts" "[I") (List.mem_of_getElem? (i := 3) rfl)) (fun _ h9 => h9) e0_34 dX13_sheet_46 ?_
              refine lv_iload_n hx hb dX13_sheet_49 rfl (lv_at hl 1 rfl) ?_
              refine lv_iload_n hx hb dX13_sheet_50 rfl (lv_at hl 2 rfl) ?_
              refine va_iast hx hb hE.1 hP hD hS 1 0 rfl rfl (by unfold vp_in; decide) dX13_sheet_51 (fun H locs hP hD hS => ?_)
              have hP : va_P D vwCl [(h0, .inr (10, fs0)), (a0, .inl (T 0, 4, .inl (upd f34 1 x2))), (a1, .inl (T 0, 4, .inl f35)), (a2, .inl (T 1, 120, .inr (.inl f36))), (a3, .inl (T 3, 120, .inr (.inr (.inr (.inl f37)))))] H := hP
              have hD : va_D A [(h0, .inr (10, fs0)), (a0, .inl (T 0, 4, .inl (upd f34 1 x2))), (a1, .inl (T 0, 4, .inl f35)), (a2, .inl (T 1, 120, .inr (.inl f36))), (a3, .inl (T 3, 120, .inr (.inr (.inr (.inl f37)))))] := hD
              refine lv_aload_n hx hb dX13_sheet_52 rfl (lv_at hl 0 rfl) ?_
              refine va_get (D := D) (ci := 10) (v := .ref a1) (C := RX13) (T := TX13) (N := 45) hx hb hts in_X13_sheet_X13 hown hE.1 hP 0 rfl rfl 35 (by decide) (hts (.fieldLink RX13 107 "ClauseBookModel" "sizes" "[I") (List.mem_of_getElem? (i := 4) rfl)) (fun _ h9 => h9) e0_35 dX13_sheet_53 ?_
              refine lv_iload_n hx hb dX13_sheet_56 rfl (lv_at hl 1 rfl) ?_
              refine lv_iload_n hx hb dX13_sheet_57 rfl (lv_at hl 2 rfl) ?_
              refine lv_if_ge (tgt := 65) hx hb dX13_sheet_58 (by decide) (fun c_91 => ?_) (fun c_91 => ?_)
              · rw [fa_le] at c_91
                try rw [ti_0] at c_91
                refine lv_iload_n hx hb dX13_sheet_65 rfl (lv_at hl 3 rfl) ?_
                refine va_iast hx hb hE.1 hP hD hS 2 0 rfl rfl (by unfold vp_in; decide) dX13_sheet_66 (fun H locs hP hD hS => ?_)
                have hP : va_P D vwCl [(h0, .inr (10, fs0)), (a0, .inl (T 0, 4, .inl (upd f34 1 x2))), (a1, .inl (T 0, 4, .inl (upd f35 1 x3))), (a2, .inl (T 1, 120, .inr (.inl f36))), (a3, .inl (T 3, 120, .inr (.inr (.inr (.inl f37)))))] H := hP
                have hD : va_D A [(h0, .inr (10, fs0)), (a0, .inl (T 0, 4, .inl (upd f34 1 x2))), (a1, .inl (T 0, 4, .inl (upd f35 1 x3))), (a2, .inl (T 1, 120, .inr (.inl f36))), (a3, .inl (T 3, 120, .inr (.inr (.inr (.inl f37)))))] := hD
                refine lv_iconst (v := 0) hx hb dX13_sheet_67 (by decide) ?_
                refine lv_istore (lv' := [(4, .int 0), (0, .ref h0), (1, .int 1), (2, .int x2), (3, .int x3)]) hx hb dX13_sheet_68 hl (by decide) rfl (fun ls hl => ?_)
                refine loopW (σ := (Int32) × (Nat → Int64) × (Nat → UInt64)) (fun x9 ls H locs => lv_has ls 5 [(4, .int x9.1), (0, .ref h0), (1, .int 1), (2, .int x2), (3, .int x3)] ∧ va_P D vwCl [(h0, .inr (10, fs0)), (a0, .inl (T 0, 4, .inl (upd f34 1 x2))), (a1, .inl (T 0, 4, .inl (upd f35 1 x3))), (a2, .inl (T 1, 120, .inr (.inl x9.2.1))), (a3, .inl (T 3, 120, .inr (.inr (.inr (.inl x9.2.2)))))] H ∧ va_D A [(h0, .inr (10, fs0)), (a0, .inl (T 0, 4, .inl (upd f34 1 x2))), (a1, .inl (T 0, 4, .inl (upd f35 1 x3))), (a2, .inl (T 1, 120, .inr (.inl x9.2.1))), (a3, .inl (T 3, 120, .inr (.inr (.inr (.inl x9.2.2)))))] ∧ va_S A s.heap H locs ∧ (0 ≤ x9.1.toInt)) (fun x9 => (30 - x9.1.toInt).toNat) (fun x9 ls H locs hI ih => ?_) (0, f36, f37) ls ⟨lv_sub hl [0, 1, 2, 3, 4] rfl, hP.sub [0, 1, 2, 3, 4] rfl, hD.sub [0, 1, 2, 3, 4] (by decide) rfl, hS, (by (try dsimp only); decide)⟩
                obtain ⟨ii, f36, f37⟩ := x9
                obtain ⟨hl, hP, hD, hS, hinv⟩ := hI
                have hl : lv_has ls 5 [(4, .int ii), (0, .ref h0), (1, .int 1), (2, .int x2), (3, .int x3)] := hl
                have hP : va_P D vwCl [(h0, .inr (10, fs0)), (a0, .inl (T 0, 4, .inl (upd f34 1 x2))), (a1, .inl (T 0, 4, .inl (upd f35 1 x3))), (a2, .inl (T 1, 120, .inr (.inl f36))), (a3, .inl (T 3, 120, .inr (.inr (.inr (.inl f37)))))] H := hP
                have hD : va_D A [(h0, .inr (10, fs0)), (a0, .inl (T 0, 4, .inl (upd f34 1 x2))), (a1, .inl (T 0, 4, .inl (upd f35 1 x3))), (a2, .inl (T 1, 120, .inr (.inl f36))), (a3, .inl (T 3, 120, .inr (.inr (.inr (.inl f37)))))] := hD
                have hinv : 0 ≤ ii.toInt := hinv
                refine lv_iload hx hb dX13_sheet_70 (lv_at hl 0 rfl) ?_
                refine lv_bipush (v := 30) hx hb dX13_sheet_72 (by decide) ?_
                refine lv_icmp_ge (tgt := 109) hx hb dX13_sheet_74 (by decide) (fun c_92 => ?_) (fun c_92 => ?_)
                · rw [fa_le] at c_92
                  try rw [ti_30] at c_92
                  refine lv_iconst (v := 1) hx hb dX13_sheet_109 (by decide) ?_
                  exact W.iret hx hb hr (fun t ht hW => ⟨⟨_, (), rfl, (by first | decide | (unfold sp_sheet; (repeat' split) <;> first | rfl | (exfalso; omega))), by rw [ht]; exact hP.sub [] rfl, hD.sub [] (by decide) rfl⟩, hS.F ht⟩) hS.2.2 dX13_sheet_110
                · rw [fa_le] at c_92
                  try rw [ti_30] at c_92
                  refine lv_aload_n hx hb dX13_sheet_77 rfl (lv_at hl 1 rfl) ?_
                  refine va_get (D := D) (ci := 10) (v := .ref a2) (C := RX13) (T := TX13) (N := 45) hx hb hts in_X13_sheet_X13 hown hE.1 hP 0 rfl rfl 36 (by decide) (hts (.fieldLink RX13 110 "ClauseBookModel" "whole" "[J") (List.mem_of_getElem? (i := 5) rfl)) (fun _ h9 => h9) e0_36 dX13_sheet_78 ?_
                  refine lv_bipush (v := 30) hx hb dX13_sheet_81 (by decide) ?_
                  refine lv_iload_n hx hb dX13_sheet_83 rfl (lv_at hl 2 rfl) ?_
                  refine lv_imul hx hb dX13_sheet_84 ?_
                  refine lv_topi (fun z_93 ez_93 => ?_)
                  obtain rfl : z_93 = 30 := ez_93.trans (by decide)
                  refine lv_iload hx hb dX13_sheet_85 (lv_at hl 0 rfl) ?_
                  refine lv_iadd hx hb dX13_sheet_87 ?_
                  refine lv_lconst (v := 0) hx hb dX13_sheet_88 (by decide) ?_
                  refine va_last hx hb hE.1 hP hD hS 3 1 rfl rfl (by rw [vp_in_iff, fb_addI (by rw [ti_30]; omega) (by rw [ti_30]; omega), ti_30]; omega) dX13_sheet_89 (fun H locs hP hD hS => ?_)
                  have hP : va_P D vwCl [(h0, .inr (10, fs0)), (a0, .inl (T 0, 4, .inl (upd f34 1 x2))), (a1, .inl (T 0, 4, .inl (upd f35 1 x3))), (a2, .inl (T 1, 120, .inr (.inl (vp_updL f36 ((30 + ii).toNatClampNeg) 0)))), (a3, .inl (T 3, 120, .inr (.inr (.inr (.inl f37)))))] H := hP
                  have hD : va_D A [(h0, .inr (10, fs0)), (a0, .inl (T 0, 4, .inl (upd f34 1 x2))), (a1, .inl (T 0, 4, .inl (upd f35 1 x3))), (a2, .inl (T 1, 120, .inr (.inl (vp_updL f36 ((30 + ii).toNatClampNeg) 0)))), (a3, .inl (T 3, 120, .inr (.inr (.inr (.inl f37)))))] := hD
                  refine lv_aload_n hx hb dX13_sheet_90 rfl (lv_at hl 1 rfl) ?_
                  refine va_get (D := D) (ci := 10) (v := .ref a3) (C := RX13) (T := TX13) (N := 45) hx hb hts in_X13_sheet_X13 hown hE.1 hP 0 rfl rfl 37 (by decide) (hts (.fieldLink RX13 113 "ClauseBookModel" "host" "[D") (List.mem_of_getElem? (i := 6) rfl)) (fun _ h9 => h9) e0_37 dX13_sheet_91 ?_
                  refine lv_bipush (v := 30) hx hb dX13_sheet_94 (by decide) ?_
                  refine lv_iload_n hx hb dX13_sheet_96 rfl (lv_at hl 2 rfl) ?_
                  refine lv_imul hx hb dX13_sheet_97 ?_
                  refine lv_topi (fun z_94 ez_94 => ?_)
                  obtain rfl : z_94 = 30 := ez_94.trans (by decide)
                  refine lv_iload hx hb dX13_sheet_98 (lv_at hl 0 rfl) ?_
                  refine lv_iadd hx hb dX13_sheet_100 ?_
                  refine lv_dconst0 hx hb dX13_sheet_101 ?_
                  refine va_dast hx hb hE.1 hP hD hS 4 3 rfl rfl (by rw [vp_in_iff, fb_addI (by rw [ti_30]; omega) (by rw [ti_30]; omega), ti_30]; omega) dX13_sheet_102 (fun H locs hP hD hS => ?_)
                  have hP : va_P D vwCl [(h0, .inr (10, fs0)), (a0, .inl (T 0, 4, .inl (upd f34 1 x2))), (a1, .inl (T 0, 4, .inl (upd f35 1 x3))), (a2, .inl (T 1, 120, .inr (.inl (vp_updL f36 ((30 + ii).toNatClampNeg) 0)))), (a3, .inl (T 3, 120, .inr (.inr (.inr (.inl (vf_upd f37 ((30 + ii).toNatClampNeg) FP.dconst0))))))] H := hP
                  have hD : va_D A [(h0, .inr (10, fs0)), (a0, .inl (T 0, 4, .inl (upd f34 1 x2))), (a1, .inl (T 0, 4, .inl (upd f35 1 x3))), (a2, .inl (T 1, 120, .inr (.inl (vp_updL f36 ((30 + ii).toNatClampNeg) 0)))), (a3, .inl (T 3, 120, .inr (.inr (.inr (.inl (vf_upd f37 ((30 + ii).toNatClampNeg) FP.dconst0))))))] := hD
                  obtain ⟨z_95, ez_95⟩ : ∃ y : Int32, y = ii + 1 := ⟨_, rfl⟩
                  refine lv_iinc (v := z_95) (lv' := [(4, .int z_95), (0, .ref h0), (1, .int 1), (2, .int x2), (3, .int x3)]) hx hb dX13_sheet_103 hl (k := 0) rfl (by rw [ez_95]; rfl) (by decide) rfl (fun ls hl => ?_)
                  refine lv_goto (tgt := 70) hx hb dX13_sheet_106 (by decide) ?_
                  exact ih (z_95, (vp_updL f36 ((30 + ii).toNatClampNeg) 0), (vf_upd f37 ((30 + ii).toNatClampNeg) FP.dconst0)) ls _ _ ⟨lv_sub hl [0, 1, 2, 3, 4] rfl, hP.sub [0, 1, 2, 3, 4] rfl, hD.sub [0, 1, 2, 3, 4] (by decide) rfl, hS, (by subst_vars; (try dsimp only); rw [inc1 (n := 30) (by omega) (by decide)]; omega)⟩ (by subst_vars; (try dsimp only); rw [inc1 (n := 30) (by omega) (by decide)]; omega)
              · rw [fa_le] at c_91
                try rw [ti_0] at c_91
                refine lv_iconst (v := 0) hx hb dX13_sheet_61 (by decide) ?_
                refine lv_goto (tgt := 66) hx hb dX13_sheet_62 (by decide) ?_
                refine va_iast hx hb hE.1 hP hD hS 2 0 rfl rfl (by unfold vp_in; decide) dX13_sheet_66 (fun H locs hP hD hS => ?_)
                have hP : va_P D vwCl [(h0, .inr (10, fs0)), (a0, .inl (T 0, 4, .inl (upd f34 1 x2))), (a1, .inl (T 0, 4, .inl (upd f35 1 0))), (a2, .inl (T 1, 120, .inr (.inl f36))), (a3, .inl (T 3, 120, .inr (.inr (.inr (.inl f37)))))] H := hP
                have hD : va_D A [(h0, .inr (10, fs0)), (a0, .inl (T 0, 4, .inl (upd f34 1 x2))), (a1, .inl (T 0, 4, .inl (upd f35 1 0))), (a2, .inl (T 1, 120, .inr (.inl f36))), (a3, .inl (T 3, 120, .inr (.inr (.inr (.inl f37)))))] := hD
                refine lv_iconst (v := 0) hx hb dX13_sheet_67 (by decide) ?_
                refine lv_istore (lv' := [(4, .int 0), (0, .ref h0), (1, .int 1), (2, .int x2), (3, .int x3)]) hx hb dX13_sheet_68 hl (by decide) rfl (fun ls hl => ?_)
                refine loopW (σ := (Int32) × (Nat → Int64) × (Nat → UInt64)) (fun x9 ls H locs => lv_has ls 5 [(4, .int x9.1), (0, .ref h0), (1, .int 1), (2, .int x2), (3, .int x3)] ∧ va_P D vwCl [(h0, .inr (10, fs0)), (a0, .inl (T 0, 4, .inl (upd f34 1 x2))), (a1, .inl (T 0, 4, .inl (upd f35 1 0))), (a2, .inl (T 1, 120, .inr (.inl x9.2.1))), (a3, .inl (T 3, 120, .inr (.inr (.inr (.inl x9.2.2)))))] H ∧ va_D A [(h0, .inr (10, fs0)), (a0, .inl (T 0, 4, .inl (upd f34 1 x2))), (a1, .inl (T 0, 4, .inl (upd f35 1 0))), (a2, .inl (T 1, 120, .inr (.inl x9.2.1))), (a3, .inl (T 3, 120, .inr (.inr (.inr (.inl x9.2.2)))))] ∧ va_S A s.heap H locs ∧ (0 ≤ x9.1.toInt)) (fun x9 => (30 - x9.1.toInt).toNat) (fun x9 ls H locs hI ih => ?_) (0, f36, f37) ls ⟨lv_sub hl [0, 1, 2, 3, 4] rfl, hP.sub [0, 1, 2, 3, 4] rfl, hD.sub [0, 1, 2, 3, 4] (by decide) rfl, hS, (by (try dsimp only); decide)⟩
                obtain ⟨ii, f36, f37⟩ := x9
                obtain ⟨hl, hP, hD, hS, hinv⟩ := hI
                have hl : lv_has ls 5 [(4, .int ii), (0, .ref h0), (1, .int 1), (2, .int x2), (3, .int x3)] := hl
                have hP : va_P D vwCl [(h0, .inr (10, fs0)), (a0, .inl (T 0, 4, .inl (upd f34 1 x2))), (a1, .inl (T 0, 4, .inl (upd f35 1 0))), (a2, .inl (T 1, 120, .inr (.inl f36))), (a3, .inl (T 3, 120, .inr (.inr (.inr (.inl f37)))))] H := hP
                have hD : va_D A [(h0, .inr (10, fs0)), (a0, .inl (T 0, 4, .inl (upd f34 1 x2))), (a1, .inl (T 0, 4, .inl (upd f35 1 0))), (a2, .inl (T 1, 120, .inr (.inl f36))), (a3, .inl (T 3, 120, .inr (.inr (.inr (.inl f37)))))] := hD
                have hinv : 0 ≤ ii.toInt := hinv
                refine lv_iload hx hb dX13_sheet_70 (lv_at hl 0 rfl) ?_
                refine lv_bipush (v := 30) hx hb dX13_sheet_72 (by decide) ?_
                refine lv_icmp_ge (tgt := 109) hx hb dX13_sheet_74 (by decide) (fun c_96 => ?_) (fun c_96 => ?_)
                · rw [fa_le] at c_96
                  try rw [ti_30] at c_96
                  refine lv_iconst (v := 1) hx hb dX13_sheet_109 (by decide) ?_
                  exact W.iret hx hb hr (fun t ht hW => ⟨⟨_, (), rfl, (by first | decide | (unfold sp_sheet; (repeat' split) <;> first | rfl | (exfalso; omega))), by rw [ht]; exact hP.sub [] rfl, hD.sub [] (by decide) rfl⟩, hS.F ht⟩) hS.2.2 dX13_sheet_110
                · rw [fa_le] at c_96
                  try rw [ti_30] at c_96
                  refine lv_aload_n hx hb dX13_sheet_77 rfl (lv_at hl 1 rfl) ?_
                  refine va_get (D := D) (ci := 10) (v := .ref a2) (C := RX13) (T := TX13) (N := 45) hx hb hts in_X13_sheet_X13 hown hE.1 hP 0 rfl rfl 36 (by decide) (hts (.fieldLink RX13 110 "ClauseBookModel" "whole" "[J") (List.mem_of_getElem? (i := 5) rfl)) (fun _ h9 => h9) e0_36 dX13_sheet_78 ?_
                  refine lv_bipush (v := 30) hx hb dX13_sheet_81 (by decide) ?_
                  refine lv_iload_n hx hb dX13_sheet_83 rfl (lv_at hl 2 rfl) ?_
                  refine lv_imul hx hb dX13_sheet_84 ?_
                  refine lv_topi (fun z_97 ez_97 => ?_)
                  obtain rfl : z_97 = 30 := ez_97.trans (by decide)
                  refine lv_iload hx hb dX13_sheet_85 (lv_at hl 0 rfl) ?_
                  refine lv_iadd hx hb dX13_sheet_87 ?_
                  refine lv_lconst (v := 0) hx hb dX13_sheet_88 (by decide) ?_
                  refine va_last hx hb hE.1 hP hD hS 3 1 rfl rfl (by rw [vp_in_iff, fb_addI (by rw [ti_30]; omega) (by rw [ti_30]; omega), ti_30]; omega) dX13_sheet_89 (fun H locs hP hD hS => ?_)
                  have hP : va_P D vwCl [(h0, .inr (10, fs0)), (a0, .inl (T 0, 4, .inl (upd f34 1 x2))), (a1, .inl (T 0, 4, .inl (upd f35 1 0))), (a2, .inl (T 1, 120, .inr (.inl (vp_updL f36 ((30 + ii).toNatClampNeg) 0)))), (a3, .inl (T 3, 120, .inr (.inr (.inr (.inl f37)))))] H := hP
                  have hD : va_D A [(h0, .inr (10, fs0)), (a0, .inl (T 0, 4, .inl (upd f34 1 x2))), (a1, .inl (T 0, 4, .inl (upd f35 1 0))), (a2, .inl (T 1, 120, .inr (.inl (vp_updL f36 ((30 + ii).toNatClampNeg) 0)))), (a3, .inl (T 3, 120, .inr (.inr (.inr (.inl f37)))))] := hD
                  refine lv_aload_n hx hb dX13_sheet_90 rfl (lv_at hl 1 rfl) ?_
                  refine va_get (D := D) (ci := 10) (v := .ref a3) (C := RX13) (T := TX13) (N := 45) hx hb hts in_X13_sheet_X13 hown hE.1 hP 0 rfl rfl 37 (by decide) (hts (.fieldLink RX13 113 "ClauseBookModel" "host" "[D") (List.mem_of_getElem? (i := 6) rfl)) (fun _ h9 => h9) e0_37 dX13_sheet_91 ?_
                  refine lv_bipush (v := 30) hx hb dX13_sheet_94 (by decide) ?_
                  refine lv_iload_n hx hb dX13_sheet_96 rfl (lv_at hl 2 rfl) ?_
                  refine lv_imul hx hb dX13_sheet_97 ?_
                  refine lv_topi (fun z_98 ez_98 => ?_)
                  obtain rfl : z_98 = 30 := ez_98.trans (by decide)
                  refine lv_iload hx hb dX13_sheet_98 (lv_at hl 0 rfl) ?_
                  refine lv_iadd hx hb dX13_sheet_100 ?_
                  refine lv_dconst0 hx hb dX13_sheet_101 ?_
                  refine va_dast hx hb hE.1 hP hD hS 4 3 rfl rfl (by rw [vp_in_iff, fb_addI (by rw [ti_30]; omega) (by rw [ti_30]; omega), ti_30]; omega) dX13_sheet_102 (fun H locs hP hD hS => ?_)
                  have hP : va_P D vwCl [(h0, .inr (10, fs0)), (a0, .inl (T 0, 4, .inl (upd f34 1 x2))), (a1, .inl (T 0, 4, .inl (upd f35 1 0))), (a2, .inl (T 1, 120, .inr (.inl (vp_updL f36 ((30 + ii).toNatClampNeg) 0)))), (a3, .inl (T 3, 120, .inr (.inr (.inr (.inl (vf_upd f37 ((30 + ii).toNatClampNeg) FP.dconst0))))))] H := hP
                  have hD : va_D A [(h0, .inr (10, fs0)), (a0, .inl (T 0, 4, .inl (upd f34 1 x2))), (a1, .inl (T 0, 4, .inl (upd f35 1 0))), (a2, .inl (T 1, 120, .inr (.inl (vp_updL f36 ((30 + ii).toNatClampNeg) 0)))), (a3, .inl (T 3, 120, .inr (.inr (.inr (.inl (vf_upd f37 ((30 + ii).toNatClampNeg) FP.dconst0))))))] := hD
                  obtain ⟨z_99, ez_99⟩ : ∃ y : Int32, y = ii + 1 := ⟨_, rfl⟩
                  refine lv_iinc (v := z_99) (lv' := [(4, .int z_99), (0, .ref h0), (1, .int 1), (2, .int x2), (3, .int x3)]) hx hb dX13_sheet_103 hl (k := 0) rfl (by rw [ez_99]; rfl) (by decide) rfl (fun ls hl => ?_)
                  refine lv_goto (tgt := 70) hx hb dX13_sheet_106 (by decide) ?_
                  exact ih (z_99, (vp_updL f36 ((30 + ii).toNatClampNeg) 0), (vf_upd f37 ((30 + ii).toNatClampNeg) FP.dconst0)) ls _ _ ⟨lv_sub hl [0, 1, 2, 3, 4] rfl, hP.sub [0, 1, 2, 3, 4] rfl, hD.sub [0, 1, 2, 3, 4] (by decide) rfl, hS, (by subst_vars; (try dsimp only); rw [inc1 (n := 30) (by omega) (by decide)]; omega)⟩ (by subst_vars; (try dsimp only); rw [inc1 (n := 30) (by omega) (by decide)]; omega)
            · refine lv_aload_n hx hb dX13_sheet_45 rfl (lv_at hl 0 rfl) ?_
              refine va_get (D := D) (ci := 10) (v := .ref a0) (C := RX13) (T := TX13) (N := 45) hx hb hts in_X13_sheet_X13 hown hE.1 hP 0 rfl rfl 34 (by decide) (hts (.fieldLink RX13 104 "ClauseBookModel" "sorts" "[I") (List.mem_of_getElem? (i := 3) rfl)) (fun _ h9 => h9) e0_34 dX13_sheet_46 ?_
              refine lv_iload_n hx hb dX13_sheet_49 rfl (lv_at hl 1 rfl) ?_
              refine lv_iload_n hx hb dX13_sheet_50 rfl (lv_at hl 2 rfl) ?_
              refine va_iast hx hb hE.1 hP hD hS 1 0 rfl rfl (by unfold vp_in; decide) dX13_sheet_51 (fun H locs hP hD hS => ?_)
              have hP : va_P D vwCl [(h0, .inr (10, fs0)), (a0, .inl (T 0, 4, .inl (upd f34 2 x2))), (a1, .inl (T 0, 4, .inl f35)), (a2, .inl (T 1, 120, .inr (.inl f36))), (a3, .inl (T 3, 120, .inr (.inr (.inr (.inl f37)))))] H := hP
              have hD : va_D A [(h0, .inr (10, fs0)), (a0, .inl (T 0, 4, .inl (upd f34 2 x2))), (a1, .inl (T 0, 4, .inl f35)), (a2, .inl (T 1, 120, .inr (.inl f36))), (a3, .inl (T 3, 120, .inr (.inr (.inr (.inl f37)))))] := hD
              refine lv_aload_n hx hb dX13_sheet_52 rfl (lv_at hl 0 rfl) ?_
              refine va_get (D := D) (ci := 10) (v := .ref a1) (C := RX13) (T := TX13) (N := 45) hx hb hts in_X13_sheet_X13 hown hE.1 hP 0 rfl rfl 35 (by decide) (hts (.fieldLink RX13 107 "ClauseBookModel" "sizes" "[I") (List.mem_of_getElem? (i := 4) rfl)) (fun _ h9 => h9) e0_35 dX13_sheet_53 ?_
              refine lv_iload_n hx hb dX13_sheet_56 rfl (lv_at hl 1 rfl) ?_
              refine lv_iload_n hx hb dX13_sheet_57 rfl (lv_at hl 2 rfl) ?_
              refine lv_if_ge (tgt := 65) hx hb dX13_sheet_58 (by decide) (fun c_100 => ?_) (fun c_100 => ?_)
              · rw [fa_le] at c_100
                try rw [ti_0] at c_100
                refine lv_iload_n hx hb dX13_sheet_65 rfl (lv_at hl 3 rfl) ?_
                refine va_iast hx hb hE.1 hP hD hS 2 0 rfl rfl (by unfold vp_in; decide) dX13_sheet_66 (fun H locs hP hD hS => ?_)
                have hP : va_P D vwCl [(h0, .inr (10, fs0)), (a0, .inl (T 0, 4, .inl (upd f34 2 x2))), (a1, .inl (T 0, 4, .inl (upd f35 2 x3))), (a2, .inl (T 1, 120, .inr (.inl f36))), (a3, .inl (T 3, 120, .inr (.inr (.inr (.inl f37)))))] H := hP
                have hD : va_D A [(h0, .inr (10, fs0)), (a0, .inl (T 0, 4, .inl (upd f34 2 x2))), (a1, .inl (T 0, 4, .inl (upd f35 2 x3))), (a2, .inl (T 1, 120, .inr (.inl f36))), (a3, .inl (T 3, 120, .inr (.inr (.inr (.inl f37)))))] := hD
                refine lv_iconst (v := 0) hx hb dX13_sheet_67 (by decide) ?_
                refine lv_istore (lv' := [(4, .int 0), (0, .ref h0), (1, .int 2), (2, .int x2), (3, .int x3)]) hx hb dX13_sheet_68 hl (by decide) rfl (fun ls hl => ?_)
                refine loopW (σ := (Int32) × (Nat → Int64) × (Nat → UInt64)) (fun x9 ls H locs => lv_has ls 5 [(4, .int x9.1), (0, .ref h0), (1, .int 2), (2, .int x2), (3, .int x3)] ∧ va_P D vwCl [(h0, .inr (10, fs0)), (a0, .inl (T 0, 4, .inl (upd f34 2 x2))), (a1, .inl (T 0, 4, .inl (upd f35 2 x3))), (a2, .inl (T 1, 120, .inr (.inl x9.2.1))), (a3, .inl (T 3, 120, .inr (.inr (.inr (.inl x9.2.2)))))] H ∧ va_D A [(h0, .inr (10, fs0)), (a0, .inl (T 0, 4, .inl (upd f34 2 x2))), (a1, .inl (T 0, 4, .inl (upd f35 2 x3))), (a2, .inl (T 1, 120, .inr (.inl x9.2.1))), (a3, .inl (T 3, 120, .inr (.inr (.inr (.inl x9.2.2)))))] ∧ va_S A s.heap H locs ∧ (0 ≤ x9.1.toInt)) (fun x9 => (30 - x9.1.toInt).toNat) (fun x9 ls H locs hI ih => ?_) (0, f36, f37) ls ⟨lv_sub hl [0, 1, 2, 3, 4] rfl, hP.sub [0, 1, 2, 3, 4] rfl, hD.sub [0, 1, 2, 3, 4] (by decide) rfl, hS, (by (try dsimp only); decide)⟩
                obtain ⟨ii, f36, f37⟩ := x9
                obtain ⟨hl, hP, hD, hS, hinv⟩ := hI
                have hl : lv_has ls 5 [(4, .int ii), (0, .ref h0), (1, .int 2), (2, .int x2), (3, .int x3)] := hl
                have hP : va_P D vwCl [(h0, .inr (10, fs0)), (a0, .inl (T 0, 4, .inl (upd f34 2 x2))), (a1, .inl (T 0, 4, .inl (upd f35 2 x3))), (a2, .inl (T 1, 120, .inr (.inl f36))), (a3, .inl (T 3, 120, .inr (.inr (.inr (.inl f37)))))] H := hP
                have hD : va_D A [(h0, .inr (10, fs0)), (a0, .inl (T 0, 4, .inl (upd f34 2 x2))), (a1, .inl (T 0, 4, .inl (upd f35 2 x3))), (a2, .inl (T 1, 120, .inr (.inl f36))), (a3, .inl (T 3, 120, .inr (.inr (.inr (.inl f37)))))] := hD
                have hinv : 0 ≤ ii.toInt := hinv
                refine lv_iload hx hb dX13_sheet_70 (lv_at hl 0 rfl) ?_
                refine lv_bipush (v := 30) hx hb dX13_sheet_72 (by decide) ?_
                refine lv_icmp_ge (tgt := 109) hx hb dX13_sheet_74 (by decide) (fun c_101 => ?_) (fun c_101 => ?_)
                · rw [fa_le] at c_101
                  try rw [ti_30] at c_101
                  refine lv_iconst (v := 1) hx hb dX13_sheet_109 (by decide) ?_
                  exact W.iret hx hb hr (fun t ht hW => ⟨⟨_, (), rfl, (by first | decide | (unfold sp_sheet; (repeat' split) <;> first | rfl | (exfalso; omega))), by rw [ht]; exact hP.sub [] rfl, hD.sub [] (by decide) rfl⟩, hS.F ht⟩) hS.2.2 dX13_sheet_110
                · rw [fa_le] at c_101
                  try rw [ti_30] at c_101
                  refine lv_aload_n hx hb dX13_sheet_77 rfl (lv_at hl 1 rfl) ?_
                  refine va_get (D := D) (ci := 10) (v := .ref a2) (C := RX13) (T := TX13) (N := 45) hx hb hts in_X13_sheet_X13 hown hE.1 hP 0 rfl rfl 36 (by decide) (hts (.fieldLink RX13 110 "ClauseBookModel" "whole" "[J") (List.mem_of_getElem? (i := 5) rfl)) (fun _ h9 => h9) e0_36 dX13_sheet_78 ?_
                  refine lv_bipush (v := 30) hx hb dX13_sheet_81 (by decide) ?_
                  refine lv_iload_n hx hb dX13_sheet_83 rfl (lv_at hl 2 rfl) ?_
                  refine lv_imul hx hb dX13_sheet_84 ?_
                  refine lv_topi (fun z_102 ez_102 => ?_)
                  obtain rfl : z_102 = 60 := ez_102.trans (by decide)
                  refine lv_iload hx hb dX13_sheet_85 (lv_at hl 0 rfl) ?_
                  refine lv_iadd hx hb dX13_sheet_87 ?_
                  refine lv_lconst (v := 0) hx hb dX13_sheet_88 (by decide) ?_
                  refine va_last hx hb hE.1 hP hD hS 3 1 rfl rfl (by rw [vp_in_iff, fb_addI (by rw [ti_60]; omega) (by rw [ti_60]; omega), ti_60]; omega) dX13_sheet_89 (fun H locs hP hD hS => ?_)
                  have hP : va_P D vwCl [(h0, .inr (10, fs0)), (a0, .inl (T 0, 4, .inl (upd f34 2 x2))), (a1, .inl (T 0, 4, .inl (upd f35 2 x3))), (a2, .inl (T 1, 120, .inr (.inl (vp_updL f36 ((60 + ii).toNatClampNeg) 0)))), (a3, .inl (T 3, 120, .inr (.inr (.inr (.inl f37)))))] H := hP
                  have hD : va_D A [(h0, .inr (10, fs0)), (a0, .inl (T 0, 4, .inl (upd f34 2 x2))), (a1, .inl (T 0, 4, .inl (upd f35 2 x3))), (a2, .inl (T 1, 120, .inr (.inl (vp_updL f36 ((60 + ii).toNatClampNeg) 0)))), (a3, .inl (T 3, 120, .inr (.inr (.inr (.inl f37)))))] := hD
                  refine lv_aload_n hx hb dX13_sheet_90 rfl (lv_at hl 1 rfl) ?_
                  refine va_get (D := D) (ci := 10) (v := .ref a3) (C := RX13) (T := TX13) (N := 45) hx hb hts in_X13_sheet_X13 hown hE.1 hP 0 rfl rfl 37 (by decide) (hts (.fieldLink RX13 113 "ClauseBookModel" "host" "[D") (List.mem_of_getElem? (i := 6) rfl)) (fun _ h9 => h9) e0_37 dX13_sheet_91 ?_
                  refine lv_bipush (v := 30) hx hb dX13_sheet_94 (by decide) ?_
                  refine lv_iload_n hx hb dX13_sheet_96 rfl (lv_at hl 2 rfl) ?_
                  refine lv_imul hx hb dX13_sheet_97 ?_
                  refine lv_topi (fun z_103 ez_103 => ?_)
                  obtain rfl : z_103 = 60 := ez_103.trans (by decide)
                  refine lv_iload hx hb dX13_sheet_98 (lv_at hl 0 rfl) ?_
                  refine lv_iadd hx hb dX13_sheet_100 ?_
                  refine lv_dconst0 hx hb dX13_sheet_101 ?_
                  refine va_dast hx hb hE.1 hP hD hS 4 3 rfl rfl (by rw [vp_in_iff, fb_addI (by rw [ti_60]; omega) (by rw [ti_60]; omega), ti_60]; omega) dX13_sheet_102 (fun H locs hP hD hS => ?_)
                  have hP : va_P D vwCl [(h0, .inr (10, fs0)), (a0, .inl (T 0, 4, .inl (upd f34 2 x2))), (a1, .inl (T 0, 4, .inl (upd f35 2 x3))), (a2, .inl (T 1, 120, .inr (.inl (vp_updL f36 ((60 + ii).toNatClampNeg) 0)))), (a3, .inl (T 3, 120, .inr (.inr (.inr (.inl (vf_upd f37 ((60 + ii).toNatClampNeg) FP.dconst0))))))] H := hP
                  have hD : va_D A [(h0, .inr (10, fs0)), (a0, .inl (T 0, 4, .inl (upd f34 2 x2))), (a1, .inl (T 0, 4, .inl (upd f35 2 x3))), (a2, .inl (T 1, 120, .inr (.inl (vp_updL f36 ((60 + ii).toNatClampNeg) 0)))), (a3, .inl (T 3, 120, .inr (.inr (.inr (.inl (vf_upd f37 ((60 + ii).toNatClampNeg) FP.dconst0))))))] := hD
                  obtain ⟨z_104, ez_104⟩ : ∃ y : Int32, y = ii + 1 := ⟨_, rfl⟩
                  refine lv_iinc (v := z_104) (lv' := [(4, .int z_104), (0, .ref h0), (1, .int 2), (2, .int x2), (3, .int x3)]) hx hb dX13_sheet_103 hl (k := 0) rfl (by rw [ez_104]; rfl) (by decide) rfl (fun ls hl => ?_)
                  refine lv_goto (tgt := 70) hx hb dX13_sheet_106 (by decide) ?_
                  exact ih (z_104, (vp_updL f36 ((60 + ii).toNatClampNeg) 0), (vf_upd f37 ((60 + ii).toNatClampNeg) FP.dconst0)) ls _ _ ⟨lv_sub hl [0, 1, 2, 3, 4] rfl, hP.sub [0, 1, 2, 3, 4] rfl, hD.sub [0, 1, 2, 3, 4] (by decide) rfl, hS, (by subst_vars; (try dsimp only); rw [inc1 (n := 30) (by omega) (by decide)]; omega)⟩ (by subst_vars; (try dsimp only); rw [inc1 (n := 30) (by omega) (by decide)]; omega)
              · rw [fa_le] at c_100
                try rw [ti_0] at c_100
                refine lv_iconst (v := 0) hx hb dX13_sheet_61 (by decide) ?_
                refine lv_goto (tgt := 66) hx hb dX13_sheet_62 (by decide) ?_
                refine va_iast hx hb hE.1 hP hD hS 2 0 rfl rfl (by unfold vp_in; decide) dX13_sheet_66 (fun H locs hP hD hS => ?_)
                have hP : va_P D vwCl [(h0, .inr (10, fs0)), (a0, .inl (T 0, 4, .inl (upd f34 2 x2))), (a1, .inl (T 0, 4, .inl (upd f35 2 0))), (a2, .inl (T 1, 120, .inr (.inl f36))), (a3, .inl (T 3, 120, .inr (.inr (.inr (.inl f37)))))] H := hP
                have hD : va_D A [(h0, .inr (10, fs0)), (a0, .inl (T 0, 4, .inl (upd f34 2 x2))), (a1, .inl (T 0, 4, .inl (upd f35 2 0))), (a2, .inl (T 1, 120, .inr (.inl f36))), (a3, .inl (T 3, 120, .inr (.inr (.inr (.inl f37)))))] := hD
                refine lv_iconst (v := 0) hx hb dX13_sheet_67 (by decide) ?_
                refine lv_istore (lv' := [(4, .int 0), (0, .ref h0), (1, .int 2), (2, .int x2), (3, .int x3)]) hx hb dX13_sheet_68 hl (by decide) rfl (fun ls hl => ?_)
                refine loopW (σ := (Int32) × (Nat → Int64) × (Nat → UInt64)) (fun x9 ls H locs => lv_has ls 5 [(4, .int x9.1), (0, .ref h0), (1, .int 2), (2, .int x2), (3, .int x3)] ∧ va_P D vwCl [(h0, .inr (10, fs0)), (a0, .inl (T 0, 4, .inl (upd f34 2 x2))), (a1, .inl (T 0, 4, .inl (upd f35 2 0))), (a2, .inl (T 1, 120, .inr (.inl x9.2.1))), (a3, .inl (T 3, 120, .inr (.inr (.inr (.inl x9.2.2)))))] H ∧ va_D A [(h0, .inr (10, fs0)), (a0, .inl (T 0, 4, .inl (upd f34 2 x2))), (a1, .inl (T 0, 4, .inl (upd f35 2 0))), (a2, .inl (T 1, 120, .inr (.inl x9.2.1))), (a3, .inl (T 3, 120, .inr (.inr (.inr (.inl x9.2.2)))))] ∧ va_S A s.heap H locs ∧ (0 ≤ x9.1.toInt)) (fun x9 => (30 - x9.1.toInt).toNat) (fun x9 ls H locs hI ih => ?_) (0, f36, f37) ls ⟨lv_sub hl [0, 1, 2, 3, 4] rfl, hP.sub [0, 1, 2, 3, 4] rfl, hD.sub [0, 1, 2, 3, 4] (by decide) rfl, hS, (by (try dsimp only); decide)⟩
                obtain ⟨ii, f36, f37⟩ := x9
                obtain ⟨hl, hP, hD, hS, hinv⟩ := hI
                have hl : lv_has ls 5 [(4, .int ii), (0, .ref h0), (1, .int 2), (2, .int x2), (3, .int x3)] := hl
                have hP : va_P D vwCl [(h0, .inr (10, fs0)), (a0, .inl (T 0, 4, .inl (upd f34 2 x2))), (a1, .inl (T 0, 4, .inl (upd f35 2 0))), (a2, .inl (T 1, 120, .inr (.inl f36))), (a3, .inl (T 3, 120, .inr (.inr (.inr (.inl f37)))))] H := hP
                have hD : va_D A [(h0, .inr (10, fs0)), (a0, .inl (T 0, 4, .inl (upd f34 2 x2))), (a1, .inl (T 0, 4, .inl (upd f35 2 0))), (a2, .inl (T 1, 120, .inr (.inl f36))), (a3, .inl (T 3, 120, .inr (.inr (.inr (.inl f37)))))] := hD
                have hinv : 0 ≤ ii.toInt := hinv
                refine lv_iload hx hb dX13_sheet_70 (lv_at hl 0 rfl) ?_
                refine lv_bipush (v := 30) hx hb dX13_sheet_72 (by decide) ?_
                refine lv_icmp_ge (tgt := 109) hx hb dX13_sheet_74 (by decide) (fun c_105 => ?_) (fun c_105 => ?_)
                · rw [fa_le] at c_105
                  try rw [ti_30] at c_105
                  refine lv_iconst (v := 1) hx hb dX13_sheet_109 (by decide) ?_
                  exact W.iret hx hb hr (fun t ht hW => ⟨⟨_, (), rfl, (by first | decide | (unfold sp_sheet; (repeat' split) <;> first | rfl | (exfalso; omega))), by rw [ht]; exact hP.sub [] rfl, hD.sub [] (by decide) rfl⟩, hS.F ht⟩) hS.2.2 dX13_sheet_110
                · rw [fa_le] at c_105
                  try rw [ti_30] at c_105
                  refine lv_aload_n hx hb dX13_sheet_77 rfl (lv_at hl 1 rfl) ?_
                  refine va_get (D := D) (ci := 10) (v := .ref a2) (C := RX13) (T := TX13) (N := 45) hx hb hts in_X13_sheet_X13 hown hE.1 hP 0 rfl rfl 36 (by decide) (hts (.fieldLink RX13 110 "ClauseBookModel" "whole" "[J") (List.mem_of_getElem? (i := 5) rfl)) (fun _ h9 => h9) e0_36 dX13_sheet_78 ?_
                  refine lv_bipush (v := 30) hx hb dX13_sheet_81 (by decide) ?_
                  refine lv_iload_n hx hb dX13_sheet_83 rfl (lv_at hl 2 rfl) ?_
                  refine lv_imul hx hb dX13_sheet_84 ?_
                  refine lv_topi (fun z_106 ez_106 => ?_)
                  obtain rfl : z_106 = 60 := ez_106.trans (by decide)
                  refine lv_iload hx hb dX13_sheet_85 (lv_at hl 0 rfl) ?_
                  refine lv_iadd hx hb dX13_sheet_87 ?_
                  refine lv_lconst (v := 0) hx hb dX13_sheet_88 (by decide) ?_
                  refine va_last hx hb hE.1 hP hD hS 3 1 rfl rfl (by rw [vp_in_iff, fb_addI (by rw [ti_60]; omega) (by rw [ti_60]; omega), ti_60]; omega) dX13_sheet_89 (fun H locs hP hD hS => ?_)
                  have hP : va_P D vwCl [(h0, .inr (10, fs0)), (a0, .inl (T 0, 4, .inl (upd f34 2 x2))), (a1, .inl (T 0, 4, .inl (upd f35 2 0))), (a2, .inl (T 1, 120, .inr (.inl (vp_updL f36 ((60 + ii).toNatClampNeg) 0)))), (a3, .inl (T 3, 120, .inr (.inr (.inr (.inl f37)))))] H := hP
                  have hD : va_D A [(h0, .inr (10, fs0)), (a0, .inl (T 0, 4, .inl (upd f34 2 x2))), (a1, .inl (T 0, 4, .inl (upd f35 2 0))), (a2, .inl (T 1, 120, .inr (.inl (vp_updL f36 ((60 + ii).toNatClampNeg) 0)))), (a3, .inl (T 3, 120, .inr (.inr (.inr (.inl f37)))))] := hD
                  refine lv_aload_n hx hb dX13_sheet_90 rfl (lv_at hl 1 rfl) ?_
                  refine va_get (D := D) (ci := 10) (v := .ref a3) (C := RX13) (T := TX13) (N := 45) hx hb hts in_X13_sheet_X13 hown hE.1 hP 0 rfl rfl 37 (by decide) (hts (.fieldLink RX13 113 "ClauseBookModel" "host" "[D") (List.mem_of_getElem? (i := 6) rfl)) (fun _ h9 => h9) e0_37 dX13_sheet_91 ?_
                  refine lv_bipush (v := 30) hx hb dX13_sheet_94 (by decide) ?_
                  refine lv_iload_n hx hb dX13_sheet_96 rfl (lv_at hl 2 rfl) ?_
                  refine lv_imul hx hb dX13_sheet_97 ?_
                  refine lv_topi (fun z_107 ez_107 => ?_)
                  obtain rfl : z_107 = 60 := ez_107.trans (by decide)
                  refine lv_iload hx hb dX13_sheet_98 (lv_at hl 0 rfl) ?_
                  refine lv_iadd hx hb dX13_sheet_100 ?_
                  refine lv_dconst0 hx hb dX13_sheet_101 ?_
                  refine va_dast hx hb hE.1 hP hD hS 4 3 rfl rfl (by rw [vp_in_iff, fb_addI (by rw [ti_60]; omega) (by rw [ti_60]; omega), ti_60]; omega) dX13_sheet_102 (fun H locs hP hD hS => ?_)
                  have hP : va_P D vwCl [(h0, .inr (10, fs0)), (a0, .inl (T 0, 4, .inl (upd f34 2 x2))), (a1, .inl (T 0, 4, .inl (upd f35 2 0))), (a2, .inl (T 1, 120, .inr (.inl (vp_updL f36 ((60 + ii).toNatClampNeg) 0)))), (a3, .inl (T 3, 120, .inr (.inr (.inr (.inl (vf_upd f37 ((60 + ii).toNatClampNeg) FP.dconst0))))))] H := hP
                  have hD : va_D A [(h0, .inr (10, fs0)), (a0, .inl (T 0, 4, .inl (upd f34 2 x2))), (a1, .inl (T 0, 4, .inl (upd f35 2 0))), (a2, .inl (T 1, 120, .inr (.inl (vp_updL f36 ((60 + ii).toNatClampNeg) 0)))), (a3, .inl (T 3, 120, .inr (.inr (.inr (.inl (vf_upd f37 ((60 + ii).toNatClampNeg) FP.dconst0))))))] := hD
                  obtain ⟨z_108, ez_108⟩ : ∃ y : Int32, y = ii + 1 := ⟨_, rfl⟩
                  refine lv_iinc (v := z_108) (lv' := [(4, .int z_108), (0, .ref h0), (1, .int 2), (2, .int x2), (3, .int x3)]) hx hb dX13_sheet_103 hl (k := 0) rfl (by rw [ez_108]; rfl) (by decide) rfl (fun ls hl => ?_)
                  refine lv_goto (tgt := 70) hx hb dX13_sheet_106 (by decide) ?_
                  exact ih (z_108, (vp_updL f36 ((60 + ii).toNatClampNeg) 0), (vf_upd f37 ((60 + ii).toNatClampNeg) FP.dconst0)) ls _ _ ⟨lv_sub hl [0, 1, 2, 3, 4] rfl, hP.sub [0, 1, 2, 3, 4] rfl, hD.sub [0, 1, 2, 3, 4] (by decide) rfl, hS, (by subst_vars; (try dsimp only); rw [inc1 (n := 30) (by omega) (by decide)]; omega)⟩ (by subst_vars; (try dsimp only); rw [inc1 (n := 30) (by omega) (by decide)]; omega)
            · refine lv_aload_n hx hb dX13_sheet_45 rfl (lv_at hl 0 rfl) ?_
              refine va_get (D := D) (ci := 10) (v := .ref a0) (C := RX13) (T := TX13) (N := 45) hx hb hts in_X13_sheet_X13 hown hE.1 hP 0 rfl rfl 34 (by decide) (hts (.fieldLink RX13 104 "ClauseBookModel" "sorts" "[I") (List.mem_of_getElem? (i := 3) rfl)) (fun _ h9 => h9) e0_34 dX13_sheet_46 ?_
              refine lv_iload_n hx hb dX13_sheet_49 rfl (lv_at hl 1 rfl) ?_
              refine lv_iload_n hx hb dX13_sheet_50 rfl (lv_at hl 2 rfl) ?_
              refine va_iast hx hb hE.1 hP hD hS 1 0 rfl rfl (by unfold vp_in; decide) dX13_sheet_51 (fun H locs hP hD hS => ?_)
              have hP : va_P D vwCl [(h0, .inr (10, fs0)), (a0, .inl (T 0, 4, .inl (upd f34 3 x2))), (a1, .inl (T 0, 4, .inl f35)), (a2, .inl (T 1, 120, .inr (.inl f36))), (a3, .inl (T 3, 120, .inr (.inr (.inr (.inl f37)))))] H := hP
              have hD : va_D A [(h0, .inr (10, fs0)), (a0, .inl (T 0, 4, .inl (upd f34 3 x2))), (a1, .inl (T 0, 4, .inl f35)), (a2, .inl (T 1, 120, .inr (.inl f36))), (a3, .inl (T 3, 120, .inr (.inr (.inr (.inl f37)))))] := hD
              refine lv_aload_n hx hb dX13_sheet_52 rfl (lv_at hl 0 rfl) ?_
              refine va_get (D := D) (ci := 10) (v := .ref a1) (C := RX13) (T := TX13) (N := 45) hx hb hts in_X13_sheet_X13 hown hE.1 hP 0 rfl rfl 35 (by decide) (hts (.fieldLink RX13 107 "ClauseBookModel" "sizes" "[I") (List.mem_of_getElem? (i := 4) rfl)) (fun _ h9 => h9) e0_35 dX13_sheet_53 ?_
              refine lv_iload_n hx hb dX13_sheet_56 rfl (lv_at hl 1 rfl) ?_
              refine lv_iload_n hx hb dX13_sheet_57 rfl (lv_at hl 2 rfl) ?_
              refine lv_if_ge (tgt := 65) hx hb dX13_sheet_58 (by decide) (fun c_109 => ?_) (fun c_109 => ?_)
              · rw [fa_le] at c_109
                try rw [ti_0] at c_109
                refine lv_iload_n hx hb dX13_sheet_65 rfl (lv_at hl 3 rfl) ?_
                refine va_iast hx hb hE.1 hP hD hS 2 0 rfl rfl (by unfold vp_in; decide) dX13_sheet_66 (fun H locs hP hD hS => ?_)
                have hP : va_P D vwCl [(h0, .inr (10, fs0)), (a0, .inl (T 0, 4, .inl (upd f34 3 x2))), (a1, .inl (T 0, 4, .inl (upd f35 3 x3))), (a2, .inl (T 1, 120, .inr (.inl f36))), (a3, .inl (T 3, 120, .inr (.inr (.inr (.inl f37)))))] H := hP
                have hD : va_D A [(h0, .inr (10, fs0)), (a0, .inl (T 0, 4, .inl (upd f34 3 x2))), (a1, .inl (T 0, 4, .inl (upd f35 3 x3))), (a2, .inl (T 1, 120, .inr (.inl f36))), (a3, .inl (T 3, 120, .inr (.inr (.inr (.inl f37)))))] := hD
                refine lv_iconst (v := 0) hx hb dX13_sheet_67 (by decide) ?_
                refine lv_istore (lv' := [(4, .int 0), (0, .ref h0), (1, .int 3), (2, .int x2), (3, .int x3)]) hx hb dX13_sheet_68 hl (by decide) rfl (fun ls hl => ?_)
                refine loopW (σ := (Int32) × (Nat → Int64) × (Nat → UInt64)) (fun x9 ls H locs => lv_has ls 5 [(4, .int x9.1), (0, .ref h0), (1, .int 3), (2, .int x2), (3, .int x3)] ∧ va_P D vwCl [(h0, .inr (10, fs0)), (a0, .inl (T 0, 4, .inl (upd f34 3 x2))), (a1, .inl (T 0, 4, .inl (upd f35 3 x3))), (a2, .inl (T 1, 120, .inr (.inl x9.2.1))), (a3, .inl (T 3, 120, .inr (.inr (.inr (.inl x9.2.2)))))] H ∧ va_D A [(h0, .inr (10, fs0)), (a0, .inl (T 0, 4, .inl (upd f34 3 x2))), (a1, .inl (T 0, 4, .inl (upd f35 3 x3))), (a2, .inl (T 1, 120, .inr (.inl x9.2.1))), (a3, .inl (T 3, 120, .inr (.inr (.inr (.inl x9.2.2)))))] ∧ va_S A s.heap H locs ∧ (0 ≤ x9.1.toInt)) (fun x9 => (30 - x9.1.toInt).toNat) (fun x9 ls H locs hI ih => ?_) (0, f36, f37) ls ⟨lv_sub hl [0, 1, 2, 3, 4] rfl, hP.sub [0, 1, 2, 3, 4] rfl, hD.sub [0, 1, 2, 3, 4] (by decide) rfl, hS, (by (try dsimp only); decide)⟩
                obtain ⟨ii, f36, f37⟩ := x9
                obtain ⟨hl, hP, hD, hS, hinv⟩ := hI
                have hl : lv_has ls 5 [(4, .int ii), (0, .ref h0), (1, .int 3), (2, .int x2), (3, .int x3)] := hl
                have hP : va_P D vwCl [(h0, .inr (10, fs0)), (a0, .inl (T 0, 4, .inl (upd f34 3 x2))), (a1, .inl (T 0, 4, .inl (upd f35 3 x3))), (a2, .inl (T 1, 120, .inr (.inl f36))), (a3, .inl (T 3, 120, .inr (.inr (.inr (.inl f37)))))] H := hP
                have hD : va_D A [(h0, .inr (10, fs0)), (a0, .inl (T 0, 4, .inl (upd f34 3 x2))), (a1, .inl (T 0, 4, .inl (upd f35 3 x3))), (a2, .inl (T 1, 120, .inr (.inl f36))), (a3, .inl (T 3, 120, .inr (.inr (.inr (.inl f37)))))] := hD
                have hinv : 0 ≤ ii.toInt := hinv
                refine lv_iload hx hb dX13_sheet_70 (lv_at hl 0 rfl) ?_
                refine lv_bipush (v := 30) hx hb dX13_sheet_72 (by decide) ?_
                refine lv_icmp_ge (tgt := 109) hx hb dX13_sheet_74 (by decide) (fun c_110 => ?_) (fun c_110 => ?_)
                · rw [fa_le] at c_110
                  try rw [ti_30] at c_110
                  refine lv_iconst (v := 1) hx hb dX13_sheet_109 (by decide) ?_
                  exact W.iret hx hb hr (fun t ht hW => ⟨⟨_, (), rfl, (by first | decide | (unfold sp_sheet; (repeat' split) <;> first | rfl | (exfalso; omega))), by rw [ht]; exact hP.sub [] rfl, hD.sub [] (by decide) rfl⟩, hS.F ht⟩) hS.2.2 dX13_sheet_110
                · rw [fa_le] at c_110
                  try rw [ti_30] at c_110
                  refine lv_aload_n hx hb dX13_sheet_77 rfl (lv_at hl 1 rfl) ?_
                  refine va_get (D := D) (ci := 10) (v := .ref a2) (C := RX13) (T := TX13) (N := 45) hx hb hts in_X13_sheet_X13 hown hE.1 hP 0 rfl rfl 36 (by decide) (hts (.fieldLink RX13 110 "ClauseBookModel" "whole" "[J") (List.mem_of_getElem? (i := 5) rfl)) (fun _ h9 => h9) e0_36 dX13_sheet_78 ?_
                  refine lv_bipush (v := 30) hx hb dX13_sheet_81 (by decide) ?_
                  refine lv_iload_n hx hb dX13_sheet_83 rfl (lv_at hl 2 rfl) ?_
                  refine lv_imul hx hb dX13_sheet_84 ?_
                  refine lv_topi (fun z_111 ez_111 => ?_)
                  obtain rfl : z_111 = 90 := ez_111.trans (by decide)
                  refine lv_iload hx hb dX13_sheet_85 (lv_at hl 0 rfl) ?_
                  refine lv_iadd hx hb dX13_sheet_87 ?_
                  refine lv_lconst (v := 0) hx hb dX13_sheet_88 (by decide) ?_
                  refine va_last hx hb hE.1 hP hD hS 3 1 rfl rfl (by rw [vp_in_iff, fb_addI (by rw [ti_90]; omega) (by rw [ti_90]; omega), ti_90]; omega) dX13_sheet_89 (fun H locs hP hD hS => ?_)
                  have hP : va_P D vwCl [(h0, .inr (10, fs0)), (a0, .inl (T 0, 4, .inl (upd f34 3 x2))), (a1, .inl (T 0, 4, .inl (upd f35 3 x3))), (a2, .inl (T 1, 120, .inr (.inl (vp_updL f36 ((90 + ii).toNatClampNeg) 0)))), (a3, .inl (T 3, 120, .inr (.inr (.inr (.inl f37)))))] H := hP
                  have hD : va_D A [(h0, .inr (10, fs0)), (a0, .inl (T 0, 4, .inl (upd f34 3 x2))), (a1, .inl (T 0, 4, .inl (upd f35 3 x3))), (a2, .inl (T 1, 120, .inr (.inl (vp_updL f36 ((90 + ii).toNatClampNeg) 0)))), (a3, .inl (T 3, 120, .inr (.inr (.inr (.inl f37)))))] := hD
                  refine lv_aload_n hx hb dX13_sheet_90 rfl (lv_at hl 1 rfl) ?_
                  refine va_get (D := D) (ci := 10) (v := .ref a3) (C := RX13) (T := TX13) (N := 45) hx hb hts in_X13_sheet_X13 hown hE.1 hP 0 rfl rfl 37 (by decide) (hts (.fieldLink RX13 113 "ClauseBookModel" "host" "[D") (List.mem_of_getElem? (i := 6) rfl)) (fun _ h9 => h9) e0_37 dX13_sheet_91 ?_
                  refine lv_bipush (v := 30) hx hb dX13_sheet_94 (by decide) ?_
                  refine lv_iload_n hx hb dX13_sheet_96 rfl (lv_at hl 2 rfl) ?_
                  refine lv_imul hx hb dX13_sheet_97 ?_
                  refine lv_topi (fun z_112 ez_112 => ?_)
                  obtain rfl : z_112 = 90 := ez_112.trans (by decide)
                  refine lv_iload hx hb dX13_sheet_98 (lv_at hl 0 rfl) ?_
                  refine lv_iadd hx hb dX13_sheet_100 ?_
                  refine lv_dconst0 hx hb dX13_sheet_101 ?_
                  refine va_dast hx hb hE.1 hP hD hS 4 3 rfl rfl (by rw [vp_in_iff, fb_addI (by rw [ti_90]; omega) (by rw [ti_90]; omega), ti_90]; omega) dX13_sheet_102 (fun H locs hP hD hS => ?_)
                  have hP : va_P D vwCl [(h0, .inr (10, fs0)), (a0, .inl (T 0, 4, .inl (upd f34 3 x2))), (a1, .inl (T 0, 4, .inl (upd f35 3 x3))), (a2, .inl (T 1, 120, .inr (.inl (vp_updL f36 ((90 + ii).toNatClampNeg) 0)))), (a3, .inl (T 3, 120, .inr (.inr (.inr (.inl (vf_upd f37 ((90 + ii).toNatClampNeg) FP.dconst0))))))] H := hP
                  have hD : va_D A [(h0, .inr (10, fs0)), (a0, .inl (T 0, 4, .inl (upd f34 3 x2))), (a1, .inl (T 0, 4, .inl (upd f35 3 x3))), (a2, .inl (T 1, 120, .inr (.inl (vp_updL f36 ((90 + ii).toNatClampNeg) 0)))), (a3, .inl (T 3, 120, .inr (.inr (.inr (.inl (vf_upd f37 ((90 + ii).toNatClampNeg) FP.dconst0))))))] := hD
                  obtain ⟨z_113, ez_113⟩ : ∃ y : Int32, y = ii + 1 := ⟨_, rfl⟩
                  refine lv_iinc (v := z_113) (lv' := [(4, .int z_113), (0, .ref h0), (1, .int 3), (2, .int x2), (3, .int x3)]) hx hb dX13_sheet_103 hl (k := 0) rfl (by rw [ez_113]; rfl) (by decide) rfl (fun ls hl => ?_)
                  refine lv_goto (tgt := 70) hx hb dX13_sheet_106 (by decide) ?_
                  exact ih (z_113, (vp_updL f36 ((90 + ii).toNatClampNeg) 0), (vf_upd f37 ((90 + ii).toNatClampNeg) FP.dconst0)) ls _ _ ⟨lv_sub hl [0, 1, 2, 3, 4] rfl, hP.sub [0, 1, 2, 3, 4] rfl, hD.sub [0, 1, 2, 3, 4] (by decide) rfl, hS, (by subst_vars; (try dsimp only); rw [inc1 (n := 30) (by omega) (by decide)]; omega)⟩ (by subst_vars; (try dsimp only); rw [inc1 (n := 30) (by omega) (by decide)]; omega)
              · rw [fa_le] at c_109
                try rw [ti_0] at c_109
                refine lv_iconst (v := 0) hx hb dX13_sheet_61 (by decide) ?_
                refine lv_goto (tgt := 66) hx hb dX13_sheet_62 (by decide) ?_
                refine va_iast hx hb hE.1 hP hD hS 2 0 rfl rfl (by unfold vp_in; decide) dX13_sheet_66 (fun H locs hP hD hS => ?_)
                have hP : va_P D vwCl [(h0, .inr (10, fs0)), (a0, .inl (T 0, 4, .inl (upd f34 3 x2))), (a1, .inl (T 0, 4, .inl (upd f35 3 0))), (a2, .inl (T 1, 120, .inr (.inl f36))), (a3, .inl (T 3, 120, .inr (.inr (.inr (.inl f37)))))] H := hP
                have hD : va_D A [(h0, .inr (10, fs0)), (a0, .inl (T 0, 4, .inl (upd f34 3 x2))), (a1, .inl (T 0, 4, .inl (upd f35 3 0))), (a2, .inl (T 1, 120, .inr (.inl f36))), (a3, .inl (T 3, 120, .inr (.inr (.inr (.inl f37)))))] := hD
                refine lv_iconst (v := 0) hx hb dX13_sheet_67 (by decide) ?_
                refine lv_istore (lv' := [(4, .int 0), (0, .ref h0), (1, .int 3), (2, .int x2), (3, .int x3)]) hx hb dX13_sheet_68 hl (by decide) rfl (fun ls hl => ?_)
                refine loopW (σ := (Int32) × (Nat → Int64) × (Nat → UInt64)) (fun x9 ls H locs => lv_has ls 5 [(4, .int x9.1), (0, .ref h0), (1, .int 3), (2, .int x2), (3, .int x3)] ∧ va_P D vwCl [(h0, .inr (10, fs0)), (a0, .inl (T 0, 4, .inl (upd f34 3 x2))), (a1, .inl (T 0, 4, .inl (upd f35 3 0))), (a2, .inl (T 1, 120, .inr (.inl x9.2.1))), (a3, .inl (T 3, 120, .inr (.inr (.inr (.inl x9.2.2)))))] H ∧ va_D A [(h0, .inr (10, fs0)), (a0, .inl (T 0, 4, .inl (upd f34 3 x2))), (a1, .inl (T 0, 4, .inl (upd f35 3 0))), (a2, .inl (T 1, 120, .inr (.inl x9.2.1))), (a3, .inl (T 3, 120, .inr (.inr (.inr (.inl x9.2.2)))))] ∧ va_S A s.heap H locs ∧ (0 ≤ x9.1.toInt)) (fun x9 => (30 - x9.1.toInt).toNat) (fun x9 ls H locs hI ih => ?_) (0, f36, f37) ls ⟨lv_sub hl [0, 1, 2, 3, 4] rfl, hP.sub [0, 1, 2, 3, 4] rfl, hD.sub [0, 1, 2, 3, 4] (by decide) rfl, hS, (by (try dsimp only); decide)⟩
                obtain ⟨ii, f36, f37⟩ := x9
                obtain ⟨hl, hP, hD, hS, hinv⟩ := hI
                have hl : lv_has ls 5 [(4, .int ii), (0, .ref h0), (1, .int 3), (2, .int x2), (3, .int x3)] := hl
                have hP : va_P D vwCl [(h0, .inr (10, fs0)), (a0, .inl (T 0, 4, .inl (upd f34 3 x2))), (a1, .inl (T 0, 4, .inl (upd f35 3 0))), (a2, .inl (T 1, 120, .inr (.inl f36))), (a3, .inl (T 3, 120, .inr (.inr (.inr (.inl f37)))))] H := hP
                have hD : va_D A [(h0, .inr (10, fs0)), (a0, .inl (T 0, 4, .inl (upd f34 3 x2))), (a1, .inl (T 0, 4, .inl (upd f35 3 0))), (a2, .inl (T 1, 120, .inr (.inl f36))), (a3, .inl (T 3, 120, .inr (.inr (.inr (.inl f37)))))] := hD
                have hinv : 0 ≤ ii.toInt := hinv
                refine lv_iload hx hb dX13_sheet_70 (lv_at hl 0 rfl) ?_
                refine lv_bipush (v := 30) hx hb dX13_sheet_72 (by decide) ?_
                refine lv_icmp_ge (tgt := 109) hx hb dX13_sheet_74 (by decide) (fun c_114 => ?_) (fun c_114 => ?_)
                · rw [fa_le] at c_114
                  try rw [ti_30] at c_114
                  refine lv_iconst (v := 1) hx hb dX13_sheet_109 (by decide) ?_
                  exact W.iret hx hb hr (fun t ht hW => ⟨⟨_, (), rfl, (by first | decide | (unfold sp_sheet; (repeat' split) <;> first | rfl | (exfalso; omega))), by rw [ht]; exact hP.sub [] rfl, hD.sub [] (by decide) rfl⟩, hS.F ht⟩) hS.2.2 dX13_sheet_110
                · rw [fa_le] at c_114
                  try rw [ti_30] at c_114
                  refine lv_aload_n hx hb dX13_sheet_77 rfl (lv_at hl 1 rfl) ?_
                  refine va_get (D := D) (ci := 10) (v := .ref a2) (C := RX13) (T := TX13) (N := 45) hx hb hts in_X13_sheet_X13 hown hE.1 hP 0 rfl rfl 36 (by decide) (hts (.fieldLink RX13 110 "ClauseBookModel" "whole" "[J") (List.mem_of_getElem? (i := 5) rfl)) (fun _ h9 => h9) e0_36 dX13_sheet_78 ?_
                  refine lv_bipush (v := 30) hx hb dX13_sheet_81 (by decide) ?_
                  refine lv_iload_n hx hb dX13_sheet_83 rfl (lv_at hl 2 rfl) ?_
                  refine lv_imul hx hb dX13_sheet_84 ?_
                  refine lv_topi (fun z_115 ez_115 => ?_)
                  obtain rfl : z_115 = 90 := ez_115.trans (by decide)
                  refine lv_iload hx hb dX13_sheet_85 (lv_at hl 0 rfl) ?_
                  refine lv_iadd hx hb dX13_sheet_87 ?_
                  refine lv_lconst (v := 0) hx hb dX13_sheet_88 (by decide) ?_
                  refine va_last hx hb hE.1 hP hD hS 3 1 rfl rfl (by rw [vp_in_iff, fb_addI (by rw [ti_90]; omega) (by rw [ti_90]; omega), ti_90]; omega) dX13_sheet_89 (fun H locs hP hD hS => ?_)
                  have hP : va_P D vwCl [(h0, .inr (10, fs0)), (a0, .inl (T 0, 4, .inl (upd f34 3 x2))), (a1, .inl (T 0, 4, .inl (upd f35 3 0))), (a2, .inl (T 1, 120, .inr (.inl (vp_updL f36 ((90 + ii).toNatClampNeg) 0)))), (a3, .inl (T 3, 120, .inr (.inr (.inr (.inl f37)))))] H := hP
                  have hD : va_D A [(h0, .inr (10, fs0)), (a0, .inl (T 0, 4, .inl (upd f34 3 x2))), (a1, .inl (T 0, 4, .inl (upd f35 3 0))), (a2, .inl (T 1, 120, .inr (.inl (vp_updL f36 ((90 + ii).toNatClampNeg) 0)))), (a3, .inl (T 3, 120, .inr (.inr (.inr (.inl f37)))))] := hD
                  refine lv_aload_n hx hb dX13_sheet_90 rfl (lv_at hl 1 rfl) ?_
                  refine va_get (D := D) (ci := 10) (v := .ref a3) (C := RX13) (T := TX13) (N := 45) hx hb hts in_X13_sheet_X13 hown hE.1 hP 0 rfl rfl 37 (by decide) (hts (.fieldLink RX13 113 "ClauseBookModel" "host" "[D") (List.mem_of_getElem? (i := 6) rfl)) (fun _ h9 => h9) e0_37 dX13_sheet_91 ?_
                  refine lv_bipush (v := 30) hx hb dX13_sheet_94 (by decide) ?_
                  refine lv_iload_n hx hb dX13_sheet_96 rfl (lv_at hl 2 rfl) ?_
                  refine lv_imul hx hb dX13_sheet_97 ?_
                  refine lv_topi (fun z_116 ez_116 => ?_)
                  obtain rfl : z_116 = 90 := ez_116.trans (by decide)
                  refine lv_iload hx hb dX13_sheet_98 (lv_at hl 0 rfl) ?_
                  refine lv_iadd hx hb dX13_sheet_100 ?_
                  refine lv_dconst0 hx hb dX13_sheet_101 ?_
                  refine va_dast hx hb hE.1 hP hD hS 4 3 rfl rfl (by rw [vp_in_iff, fb_addI (by rw [ti_90]; omega) (by rw [ti_90]; omega), ti_90]; omega) dX13_sheet_102 (fun H locs hP hD hS => ?_)
                  have hP : va_P D vwCl [(h0, .inr (10, fs0)), (a0, .inl (T 0, 4, .inl (upd f34 3 x2))), (a1, .inl (T 0, 4, .inl (upd f35 3 0))), (a2, .inl (T 1, 120, .inr (.inl (vp_updL f36 ((90 + ii).toNatClampNeg) 0)))), (a3, .inl (T 3, 120, .inr (.inr (.inr (.inl (vf_upd f37 ((90 + ii).toNatClampNeg) FP.dconst0))))))] H := hP
                  have hD : va_D A [(h0, .inr (10, fs0)), (a0, .inl (T 0, 4, .inl (upd f34 3 x2))), (a1, .inl (T 0, 4, .inl (upd f35 3 0))), (a2, .inl (T 1, 120, .inr (.inl (vp_updL f36 ((90 + ii).toNatClampNeg) 0)))), (a3, .inl (T 3, 120, .inr (.inr (.inr (.inl (vf_upd f37 ((90 + ii).toNatClampNeg) FP.dconst0))))))] := hD
                  obtain ⟨z_117, ez_117⟩ : ∃ y : Int32, y = ii + 1 := ⟨_, rfl⟩
                  refine lv_iinc (v := z_117) (lv' := [(4, .int z_117), (0, .ref h0), (1, .int 3), (2, .int x2), (3, .int x3)]) hx hb dX13_sheet_103 hl (k := 0) rfl (by rw [ez_117]; rfl) (by decide) rfl (fun ls hl => ?_)
                  refine lv_goto (tgt := 70) hx hb dX13_sheet_106 (by decide) ?_
                  exact ih (z_117, (vp_updL f36 ((90 + ii).toNatClampNeg) 0), (vf_upd f37 ((90 + ii).toNatClampNeg) FP.dconst0)) ls _ _ ⟨lv_sub hl [0, 1, 2, 3, 4] rfl, hP.sub [0, 1, 2, 3, 4] rfl, hD.sub [0, 1, 2, 3, 4] (by decide) rfl, hS, (by subst_vars; (try dsimp only); rw [inc1 (n := 30) (by omega) (by decide)]; omega)⟩ (by subst_vars; (try dsimp only); rw [inc1 (n := 30) (by omega) (by decide)]; omega)
          · rw [fa_lt] at c_81
            try rw [ti_0] at c_81
            refine lv_iload_n hx hb dX13_sheet_38 rfl (lv_at hl 3 rfl) ?_
            refine lv_if_ge (tgt := 45) hx hb dX13_sheet_39 (by decide) (fun c_118 => ?_) (fun c_118 => ?_)
            · rw [fa_le] at c_118
              try rw [ti_0] at c_118
              rcases in4 (x := x1) (by omega) with rfl | rfl | rfl | rfl
              · refine lv_aload_n hx hb dX13_sheet_45 rfl (lv_at hl 0 rfl) ?_
                refine va_get (D := D) (ci := 10) (v := .ref a0) (C := RX13) (T := TX13) (N := 45) hx hb hts in_X13_sheet_X13 hown hE.1 hP 0 rfl rfl 34 (by decide) (hts (.fieldLink RX13 104 "ClauseBookModel" "sorts" "[I") (List.mem_of_getElem? (i := 3) rfl)) (fun _ h9 => h9) e0_34 dX13_sheet_46 ?_
                refine lv_iload_n hx hb dX13_sheet_49 rfl (lv_at hl 1 rfl) ?_
                refine lv_iload_n hx hb dX13_sheet_50 rfl (lv_at hl 2 rfl) ?_
                refine va_iast hx hb hE.1 hP hD hS 1 0 rfl rfl (by unfold vp_in; decide) dX13_sheet_51 (fun H locs hP hD hS => ?_)
                have hP : va_P D vwCl [(h0, .inr (10, fs0)), (a0, .inl (T 0, 4, .inl (upd f34 0 x2))), (a1, .inl (T 0, 4, .inl f35)), (a2, .inl (T 1, 120, .inr (.inl f36))), (a3, .inl (T 3, 120, .inr (.inr (.inr (.inl f37)))))] H := hP
                have hD : va_D A [(h0, .inr (10, fs0)), (a0, .inl (T 0, 4, .inl (upd f34 0 x2))), (a1, .inl (T 0, 4, .inl f35)), (a2, .inl (T 1, 120, .inr (.inl f36))), (a3, .inl (T 3, 120, .inr (.inr (.inr (.inl f37)))))] := hD
                refine lv_aload_n hx hb dX13_sheet_52 rfl (lv_at hl 0 rfl) ?_
                refine va_get (D := D) (ci := 10) (v := .ref a1) (C := RX13) (T := TX13) (N := 45) hx hb hts in_X13_sheet_X13 hown hE.1 hP 0 rfl rfl 35 (by decide) (hts (.fieldLink RX13 107 "ClauseBookModel" "sizes" "[I") (List.mem_of_getElem? (i := 4) rfl)) (fun _ h9 => h9) e0_35 dX13_sheet_53 ?_
                refine lv_iload_n hx hb dX13_sheet_56 rfl (lv_at hl 1 rfl) ?_
                refine lv_iload_n hx hb dX13_sheet_57 rfl (lv_at hl 2 rfl) ?_
                refine lv_if_ge (tgt := 65) hx hb dX13_sheet_58 (by decide) (fun c_119 => ?_) (fun c_119 => ?_)
                · rw [fa_le] at c_119
                  try rw [ti_0] at c_119
                  refine lv_iload_n hx hb dX13_sheet_65 rfl (lv_at hl 3 rfl) ?_
                  refine va_iast hx hb hE.1 hP hD hS 2 0 rfl rfl (by unfold vp_in; decide) dX13_sheet_66 (fun H locs hP hD hS => ?_)
                  have hP : va_P D vwCl [(h0, .inr (10, fs0)), (a0, .inl (T 0, 4, .inl (upd f34 0 x2))), (a1, .inl (T 0, 4, .inl (upd f35 0 x3))), (a2, .inl (T 1, 120, .inr (.inl f36))), (a3, .inl (T 3, 120, .inr (.inr (.inr (.inl f37)))))] H := hP
                  have hD : va_D A [(h0, .inr (10, fs0)), (a0, .inl (T 0, 4, .inl (upd f34 0 x2))), (a1, .inl (T 0, 4, .inl (upd f35 0 x3))), (a2, .inl (T 1, 120, .inr (.inl f36))), (a3, .inl (T 3, 120, .inr (.inr (.inr (.inl f37)))))] := hD
                  refine lv_iconst (v := 0) hx hb dX13_sheet_67 (by decide) ?_
                  refine lv_istore (lv' := [(4, .int 0), (0, .ref h0), (1, .int 0), (2, .int x2), (3, .int x3)]) hx hb dX13_sheet_68 hl (by decide) rfl (fun ls hl => ?_)
                  refine loopW (σ := (Int32) × (Nat → Int64) × (Nat → UInt64)) (fun x9 ls H locs => lv_has ls 5 [(4, .int x9.1), (0, .ref h0), (1, .int 0), (2, .int x2), (3, .int x3)] ∧ va_P D vwCl [(h0, .inr (10, fs0)), (a0, .inl (T 0, 4, .inl (upd f34 0 x2))), (a1, .inl (T 0, 4, .inl (upd f35 0 x3))), (a2, .inl (T 1, 120, .inr (.inl x9.2.1))), (a3, .inl (T 3, 120, .inr (.inr (.inr (.inl x9.2.2)))))] H ∧ va_D A [(h0, .inr (10, fs0)), (a0, .inl (T 0, 4, .inl (upd f34 0 x2))), (a1, .inl (T 0, 4, .inl (upd f35 0 x3))), (a2, .inl (T 1, 120, .inr (.inl x9.2.1))), (a3, .inl (T 3, 120, .inr (.inr (.inr (.inl x9.2.2)))))] ∧ va_S A s.heap H locs ∧ (0 ≤ x9.1.toInt)) (fun x9 => (30 - x9.1.toInt).toNat) (fun x9 ls H locs hI ih => ?_) (0, f36, f37) ls ⟨lv_sub hl [0, 1, 2, 3, 4] rfl, hP.sub [0, 1, 2, 3, 4] rfl, hD.sub [0, 1, 2, 3, 4] (by decide) rfl, hS, (by (try dsimp only); decide)⟩
                  obtain ⟨ii, f36, f37⟩ := x9
                  obtain ⟨hl, hP, hD, hS, hinv⟩ := hI
                  have hl : lv_has ls 5 [(4, .int ii), (0, .ref h0), (1, .int 0), (2, .int x2), (3, .int x3)] := hl
                  have hP : va_P D vwCl [(h0, .inr (10, fs0)), (a0, .inl (T 0, 4, .inl (upd f34 0 x2))), (a1, .inl (T 0, 4, .inl (upd f35 0 x3))), (a2, .inl (T 1, 120, .inr (.inl f36))), (a3, .inl (T 3, 120, .inr (.inr (.inr (.inl f37)))))] H := hP
                  have hD : va_D A [(h0, .inr (10, fs0)), (a0, .inl (T 0, 4, .inl (upd f34 0 x2))), (a1, .inl (T 0, 4, .inl (upd f35 0 x3))), (a2, .inl (T 1, 120, .inr (.inl f36))), (a3, .inl (T 3, 120, .inr (.inr (.inr (.inl f37)))))] := hD
                  have hinv : 0 ≤ ii.toInt := hinv
                  refine lv_iload hx hb dX13_sheet_70 (lv_at hl 0 rfl) ?_
                  refine lv_bipush (v := 30) hx hb dX13_sheet_72 (by decide) ?_
                  refine lv_icmp_ge (tgt := 109) hx hb dX13_sheet_74 (by decide) (fun c_120 => ?_) (fun c_120 => ?_)
                  · rw [fa_le] at c_120
                    try rw [ti_30] at c_120
                    refine lv_iconst (v := 1) hx hb dX13_sheet_109 (by decide) ?_
                    exact W.iret hx hb hr (fun t ht hW => ⟨⟨_, (), rfl, (by first | decide | (unfold sp_sheet; (repeat' split) <;> first | rfl | (exfalso; omega))), by rw [ht]; exact hP.sub [] rfl, hD.sub [] (by decide) rfl⟩, hS.F ht⟩) hS.2.2 dX13_sheet_110
                  · rw [fa_le] at c_120
                    try rw [ti_30] at c_120
                    refine lv_aload_n hx hb dX13_sheet_77 rfl (lv_at hl 1 rfl) ?_
                    refine va_get (D := D) (ci := 10) (v := .ref a2) (C := RX13) (T := TX13) (N := 45) hx hb hts in_X13_sheet_X13 hown hE.1 hP 0 rfl rfl 36 (by decide) (hts (.fieldLink RX13 110 "ClauseBookModel" "whole" "[J") (List.mem_of_getElem? (i := 5) rfl)) (fun _ h9 => h9) e0_36 dX13_sheet_78 ?_
                    refine lv_bipush (v := 30) hx hb dX13_sheet_81 (by decide) ?_
                    refine lv_iload_n hx hb dX13_sheet_83 rfl (lv_at hl 2 rfl) ?_
                    refine lv_imul hx hb dX13_sheet_84 ?_
                    refine lv_topi (fun z_121 ez_121 => ?_)
                    obtain rfl : z_121 = 0 := ez_121.trans (by decide)
                    refine lv_iload hx hb dX13_sheet_85 (lv_at hl 0 rfl) ?_
                    refine lv_iadd hx hb dX13_sheet_87 ?_
                    refine lv_lconst (v := 0) hx hb dX13_sheet_88 (by decide) ?_
                    refine va_last hx hb hE.1 hP hD hS 3 1 rfl rfl (by rw [vp_in_iff, fb_addI (by rw [ti_0]; omega) (by rw [ti_0]; omega), ti_0]; omega) dX13_sheet_89 (fun H locs hP hD hS => ?_)
                    have hP : va_P D vwCl [(h0, .inr (10, fs0)), (a0, .inl (T 0, 4, .inl (upd f34 0 x2))), (a1, .inl (T 0, 4, .inl (upd f35 0 x3))), (a2, .inl (T 1, 120, .inr (.inl (vp_updL f36 ((0 + ii).toNatClampNeg) 0)))), (a3, .inl (T 3, 120, .inr (.inr (.inr (.inl f37)))))] H := hP
                    have hD : va_D A [(h0, .inr (10, fs0)), (a0, .inl (T 0, 4, .inl (upd f34 0 x2))), (a1, .inl (T 0, 4, .inl (upd f35 0 x3))), (a2, .inl (T 1, 120, .inr (.inl (vp_updL f36 ((0 + ii).toNatClampNeg) 0)))), (a3, .inl (T 3, 120, .inr (.inr (.inr (.inl f37)))))] := hD
                    refine lv_aload_n hx hb dX13_sheet_90 rfl (lv_at hl 1 rfl) ?_
                    refine va_get (D := D) (ci := 10) (v := .ref a3) (C := RX13) (T := TX13) (N := 45) hx hb hts in_X13_sheet_X13 hown hE.1 hP 0 rfl rfl 37 (by decide) (hts (.fieldLink RX13 113 "ClauseBookModel" "host" "[D") (List.mem_of_getElem? (i := 6) rfl)) (fun _ h9 => h9) e0_37 dX13_sheet_91 ?_
                    refine lv_bipush (v := 30) hx hb dX13_sheet_94 (by decide) ?_
                    refine lv_iload_n hx hb dX13_sheet_96 rfl (lv_at hl 2 rfl) ?_
                    refine lv_imul hx hb dX13_sheet_97 ?_
                    refine lv_topi (fun z_122 ez_122 => ?_)
                    obtain rfl : z_122 = 0 := ez_122.trans (by decide)
                    refine lv_iload hx hb dX13_sheet_98 (lv_at hl 0 rfl) ?_
                    refine lv_iadd hx hb dX13_sheet_100 ?_
                    refine lv_dconst0 hx hb dX13_sheet_101 ?_
                    refine va_dast hx hb hE.1 hP hD hS 4 3 rfl rfl (by rw [vp_in_iff, fb_addI (by rw [ti_0]; omega) (by rw [ti_0]; omega), ti_0]; omega) dX13_sheet_102 (fun H locs hP hD hS => ?_)
                    have hP : va_P D vwCl [(h0, .inr (10, fs0)), (a0, .inl (T 0, 4, .inl (upd f34 0 x2))), (a1, .inl (T 0, 4, .inl (upd f35 0 x3))), (a2, .inl (T 1, 120, .inr (.inl (vp_updL f36 ((0 + ii).toNatClampNeg) 0)))), (a3, .inl (T 3, 120, .inr (.inr (.inr (.inl (vf_upd f37 ((0 + ii).toNatClampNeg) FP.dconst0))))))] H := hP
                    have hD : va_D A [(h0, .inr (10, fs0)), (a0, .inl (T 0, 4, .inl (upd f34 0 x2))), (a1, .inl (T 0, 4, .inl (upd f35 0 x3))), (a2, .inl (T 1, 120, .inr (.inl (vp_updL f36 ((0 + ii).toNatClampNeg) 0)))), (a3, .inl (T 3, 120, .inr (.inr (.inr (.inl (vf_upd f37 ((0 + ii).toNatClampNeg) FP.dconst0))))))] := hD
                    obtain ⟨z_123, ez_123⟩ : ∃ y : Int32, y = ii + 1 := ⟨_, rfl⟩
                    refine lv_iinc (v := z_123) (lv' := [(4, .int z_123), (0, .ref h0), (1, .int 0), (2, .int x2), (3, .int x3)]) hx hb dX13_sheet_103 hl (k := 0) rfl (by rw [ez_123]; rfl) (by decide) rfl (fun ls hl => ?_)
                    refine lv_goto (tgt := 70) hx hb dX13_sheet_106 (by decide) ?_
                    exact ih (z_123, (vp_updL f36 ((0 + ii).toNatClampNeg) 0), (vf_upd f37 ((0 + ii).toNatClampNeg) FP.dconst0)) ls _ _ ⟨lv_sub hl [0, 1, 2, 3, 4] rfl, hP.sub [0, 1, 2, 3, 4] rfl, hD.sub [0, 1, 2, 3, 4] (by decide) rfl, hS, (by subst_vars; (try dsimp only); rw [inc1 (n := 30) (by omega) (by decide)]; omega)⟩ (by subst_vars; (try dsimp only); rw [inc1 (n := 30) (by omega) (by decide)]; omega)
                · rw [fa_le] at c_119
                  try rw [ti_0] at c_119
                  refine lv_iconst (v := 0) hx hb dX13_sheet_61 (by decide) ?_
                  refine lv_goto (tgt := 66) hx hb dX13_sheet_62 (by decide) ?_
                  refine va_iast hx hb hE.1 hP hD hS 2 0 rfl rfl (by unfold vp_in; decide) dX13_sheet_66 (fun H locs hP hD hS => ?_)
                  have hP : va_P D vwCl [(h0, .inr (10, fs0)), (a0, .inl (T 0, 4, .inl (upd f34 0 x2))), (a1, .inl (T 0, 4, .inl (upd f35 0 0))), (a2, .inl (T 1, 120, .inr (.inl f36))), (a3, .inl (T 3, 120, .inr (.inr (.inr (.inl f37)))))] H := hP
                  have hD : va_D A [(h0, .inr (10, fs0)), (a0, .inl (T 0, 4, .inl (upd f34 0 x2))), (a1, .inl (T 0, 4, .inl (upd f35 0 0))), (a2, .inl (T 1, 120, .inr (.inl f36))), (a3, .inl (T 3, 120, .inr (.inr (.inr (.inl f37)))))] := hD
                  refine lv_iconst (v := 0) hx hb dX13_sheet_67 (by decide) ?_
                  refine lv_istore (lv' := [(4, .int 0), (0, .ref h0), (1, .int 0), (2, .int x2), (3, .int x3)]) hx hb dX13_sheet_68 hl (by decide) rfl (fun ls hl => ?_)
                  refine loopW (σ := (Int32) × (Nat → Int64) × (Nat → UInt64)) (fun x9 ls H locs => lv_has ls 5 [(4, .int x9.1), (0, .ref h0), (1, .int 0), (2, .int x2), (3, .int x3)] ∧ va_P D vwCl [(h0, .inr (10, fs0)), (a0, .inl (T 0, 4, .inl (upd f34 0 x2))), (a1, .inl (T 0, 4, .inl (upd f35 0 0))), (a2, .inl (T 1, 120, .inr (.inl x9.2.1))), (a3, .inl (T 3, 120, .inr (.inr (.inr (.inl x9.2.2)))))] H ∧ va_D A [(h0, .inr (10, fs0)), (a0, .inl (T 0, 4, .inl (upd f34 0 x2))), (a1, .inl (T 0, 4, .inl (upd f35 0 0))), (a2, .inl (T 1, 120, .inr (.inl x9.2.1))), (a3, .inl (T 3, 120, .inr (.inr (.inr (.inl x9.2.2)))))] ∧ va_S A s.heap H locs ∧ (0 ≤ x9.1.toInt)) (fun x9 => (30 - x9.1.toInt).toNat) (fun x9 ls H locs hI ih => ?_) (0, f36, f37) ls ⟨lv_sub hl [0, 1, 2, 3, 4] rfl, hP.sub [0, 1, 2, 3, 4] rfl, hD.sub [0, 1, 2, 3, 4] (by decide) rfl, hS, (by (try dsimp only); decide)⟩
                  obtain ⟨ii, f36, f37⟩ := x9
                  obtain ⟨hl, hP, hD, hS, hinv⟩ := hI
                  have hl : lv_has ls 5 [(4, .int ii), (0, .ref h0), (1, .int 0), (2, .int x2), (3, .int x3)] := hl
                  have hP : va_P D vwCl [(h0, .inr (10, fs0)), (a0, .inl (T 0, 4, .inl (upd f34 0 x2))), (a1, .inl (T 0, 4, .inl (upd f35 0 0))), (a2, .inl (T 1, 120, .inr (.inl f36))), (a3, .inl (T 3, 120, .inr (.inr (.inr (.inl f37)))))] H := hP
                  have hD : va_D A [(h0, .inr (10, fs0)), (a0, .inl (T 0, 4, .inl (upd f34 0 x2))), (a1, .inl (T 0, 4, .inl (upd f35 0 0))), (a2, .inl (T 1, 120, .inr (.inl f36))), (a3, .inl (T 3, 120, .inr (.inr (.inr (.inl f37)))))] := hD
                  have hinv : 0 ≤ ii.toInt := hinv
                  refine lv_iload hx hb dX13_sheet_70 (lv_at hl 0 rfl) ?_
                  refine lv_bipush (v := 30) hx hb dX13_sheet_72 (by decide) ?_
                  refine lv_icmp_ge (tgt := 109) hx hb dX13_sheet_74 (by decide) (fun c_124 => ?_) (fun c_124 => ?_)
                  · rw [fa_le] at c_124
                    try rw [ti_30] at c_124
                    refine lv_iconst (v := 1) hx hb dX13_sheet_109 (by decide) ?_
                    exact W.iret hx hb hr (fun t ht hW => ⟨⟨_, (), rfl, (by first | decide | (unfold sp_sheet; (repeat' split) <;> first | rfl | (exfalso; omega))), by rw [ht]; exact hP.sub [] rfl, hD.sub [] (by decide) rfl⟩, hS.F ht⟩) hS.2.2 dX13_sheet_110
                  · rw [fa_le] at c_124
                    try rw [ti_30] at c_124
                    refine lv_aload_n hx hb dX13_sheet_77 rfl (lv_at hl 1 rfl) ?_
                    refine va_get (D := D) (ci := 10) (v := .ref a2) (C := RX13) (T := TX13) (N := 45) hx hb hts in_X13_sheet_X13 hown hE.1 hP 0 rfl rfl 36 (by decide) (hts (.fieldLink RX13 110 "ClauseBookModel" "whole" "[J") (List.mem_of_getElem? (i := 5) rfl)) (fun _ h9 => h9) e0_36 dX13_sheet_78 ?_
                    refine lv_bipush (v := 30) hx hb dX13_sheet_81 (by decide) ?_
                    refine lv_iload_n hx hb dX13_sheet_83 rfl (lv_at hl 2 rfl) ?_
                    refine lv_imul hx hb dX13_sheet_84 ?_
                    refine lv_topi (fun z_125 ez_125 => ?_)
                    obtain rfl : z_125 = 0 := ez_125.trans (by decide)
                    refine lv_iload hx hb dX13_sheet_85 (lv_at hl 0 rfl) ?_
                    refine lv_iadd hx hb dX13_sheet_87 ?_
                    refine lv_lconst (v := 0) hx hb dX13_sheet_88 (by decide) ?_
                    refine va_last hx hb hE.1 hP hD hS 3 1 rfl rfl (by rw [vp_in_iff, fb_addI (by rw [ti_0]; omega) (by rw [ti_0]; omega), ti_0]; omega) dX13_sheet_89 (fun H locs hP hD hS => ?_)
                    have hP : va_P D vwCl [(h0, .inr (10, fs0)), (a0, .inl (T 0, 4, .inl (upd f34 0 x2))), (a1, .inl (T 0, 4, .inl (upd f35 0 0))), (a2, .inl (T 1, 120, .inr (.inl (vp_updL f36 ((0 + ii).toNatClampNeg) 0)))), (a3, .inl (T 3, 120, .inr (.inr (.inr (.inl f37)))))] H := hP
                    have hD : va_D A [(h0, .inr (10, fs0)), (a0, .inl (T 0, 4, .inl (upd f34 0 x2))), (a1, .inl (T 0, 4, .inl (upd f35 0 0))), (a2, .inl (T 1, 120, .inr (.inl (vp_updL f36 ((0 + ii).toNatClampNeg) 0)))), (a3, .inl (T 3, 120, .inr (.inr (.inr (.inl f37)))))] := hD
                    refine lv_aload_n hx hb dX13_sheet_90 rfl (lv_at hl 1 rfl) ?_
                    refine va_get (D := D) (ci := 10) (v := .ref a3) (C := RX13) (T := TX13) (N := 45) hx hb hts in_X13_sheet_X13 hown hE.1 hP 0 rfl rfl 37 (by decide) (hts (.fieldLink RX13 113 "ClauseBookModel" "host" "[D") (List.mem_of_getElem? (i := 6) rfl)) (fun _ h9 => h9) e0_37 dX13_sheet_91 ?_
                    refine lv_bipush (v := 30) hx hb dX13_sheet_94 (by decide) ?_
                    refine lv_iload_n hx hb dX13_sheet_96 rfl (lv_at hl 2 rfl) ?_
                    refine lv_imul hx hb dX13_sheet_97 ?_
                    refine lv_topi (fun z_126 ez_126 => ?_)
                    obtain rfl : z_126 = 0 := ez_126.trans (by decide)
                    refine lv_iload hx hb dX13_sheet_98 (lv_at hl 0 rfl) ?_
                    refine lv_iadd hx hb dX13_sheet_100 ?_
                    refine lv_dconst0 hx hb dX13_sheet_101 ?_
                    refine va_dast hx hb hE.1 hP hD hS 4 3 rfl rfl (by rw [vp_in_iff, fb_addI (by rw [ti_0]; omega) (by rw [ti_0]; omega), ti_0]; omega) dX13_sheet_102 (fun H locs hP hD hS => ?_)
                    have hP : va_P D vwCl [(h0, .inr (10, fs0)), (a0, .inl (T 0, 4, .inl (upd f34 0 x2))), (a1, .inl (T 0, 4, .inl (upd f35 0 0))), (a2, .inl (T 1, 120, .inr (.inl (vp_updL f36 ((0 + ii).toNatClampNeg) 0)))), (a3, .inl (T 3, 120, .inr (.inr (.inr (.inl (vf_upd f37 ((0 + ii).toNatClampNeg) FP.dconst0))))))] H := hP
                    have hD : va_D A [(h0, .inr (10, fs0)), (a0, .inl (T 0, 4, .inl (upd f34 0 x2))), (a1, .inl (T 0, 4, .inl (upd f35 0 0))), (a2, .inl (T 1, 120, .inr (.inl (vp_updL f36 ((0 + ii).toNatClampNeg) 0)))), (a3, .inl (T 3, 120, .inr (.inr (.inr (.inl (vf_upd f37 ((0 + ii).toNatClampNeg) FP.dconst0))))))] := hD
                    obtain ⟨z_127, ez_127⟩ : ∃ y : Int32, y = ii + 1 := ⟨_, rfl⟩
                    refine lv_iinc (v := z_127) (lv' := [(4, .int z_127), (0, .ref h0), (1, .int 0), (2, .int x2), (3, .int x3)]) hx hb dX13_sheet_103 hl (k := 0) rfl (by rw [ez_127]; rfl) (by decide) rfl (fun ls hl => ?_)
                    refine lv_goto (tgt := 70) hx hb dX13_sheet_106 (by decide) ?_
                    exact ih (z_127, (vp_updL f36 ((0 + ii).toNatClampNeg) 0), (vf_upd f37 ((0 + ii).toNatClampNeg) FP.dconst0)) ls _ _ ⟨lv_sub hl [0, 1, 2, 3, 4] rfl, hP.sub [0, 1, 2, 3, 4] rfl, hD.sub [0, 1, 2, 3, 4] (by decide) rfl, hS, (by subst_vars; (try dsimp only); rw [inc1 (n := 30) (by omega) (by decide)]; omega)⟩ (by subst_vars; (try dsimp only); rw [inc1 (n := 30) (by omega) (by decide)]; omega)
              · refine lv_aload_n hx hb dX13_sheet_45 rfl (lv_at hl 0 rfl) ?_
                refine va_get (D := D) (ci := 10) (v := .ref a0) (C := RX13) (T := TX13) (N := 45) hx hb hts in_X13_sheet_X13 hown hE.1 hP 0 rfl rfl 34 (by decide) (hts (.fieldLink RX13 104 "ClauseBookModel" "sorts" "[I") (List.mem_of_getElem? (i := 3) rfl)) (fun _ h9 => h9) e0_34 dX13_sheet_46 ?_
                refine lv_iload_n hx hb dX13_sheet_49 rfl (lv_at hl 1 rfl) ?_
                refine lv_iload_n hx hb dX13_sheet_50 rfl (lv_at hl 2 rfl) ?_
                refine va_iast hx hb hE.1 hP hD hS 1 0 rfl rfl (by unfold vp_in; decide) dX13_sheet_51 (fun H locs hP hD hS => ?_)
                have hP : va_P D vwCl [(h0, .inr (10, fs0)), (a0, .inl (T 0, 4, .inl (upd f34 1 x2))), (a1, .inl (T 0, 4, .inl f35)), (a2, .inl (T 1, 120, .inr (.inl f36))), (a3, .inl (T 3, 120, .inr (.inr (.inr (.inl f37)))))] H := hP
                have hD : va_D A [(h0, .inr (10, fs0)), (a0, .inl (T 0, 4, .inl (upd f34 1 x2))), (a1, .inl (T 0, 4, .inl f35)), (a2, .inl (T 1, 120, .inr (.inl f36))), (a3, .inl (T 3, 120, .inr (.inr (.inr (.inl f37)))))] := hD
                refine lv_aload_n hx hb dX13_sheet_52 rfl (lv_at hl 0 rfl) ?_
                refine va_get (D := D) (ci := 10) (v := .ref a1) (C := RX13) (T := TX13) (N := 45) hx hb hts in_X13_sheet_X13 hown hE.1 hP 0 rfl rfl 35 (by decide) (hts (.fieldLink RX13 107 "ClauseBookModel" "sizes" "[I") (List.mem_of_getElem? (i := 4) rfl)) (fun _ h9 => h9) e0_35 dX13_sheet_53 ?_
                refine lv_iload_n hx hb dX13_sheet_56 rfl (lv_at hl 1 rfl) ?_
                refine lv_iload_n hx hb dX13_sheet_57 rfl (lv_at hl 2 rfl) ?_
                refine lv_if_ge (tgt := 65) hx hb dX13_sheet_58 (by decide) (fun c_128 => ?_) (fun c_128 => ?_)
                · rw [fa_le] at c_128
                  try rw [ti_0] at c_128
                  refine lv_iload_n hx hb dX13_sheet_65 rfl (lv_at hl 3 rfl) ?_
                  refine va_iast hx hb hE.1 hP hD hS 2 0 rfl rfl (by unfold vp_in; decide) dX13_sheet_66 (fun H locs hP hD hS => ?_)
                  have hP : va_P D vwCl [(h0, .inr (10, fs0)), (a0, .inl (T 0, 4, .inl (upd f34 1 x2))), (a1, .inl (T 0, 4, .inl (upd f35 1 x3))), (a2, .inl (T 1, 120, .inr (.inl f36))), (a3, .inl (T 3, 120, .inr (.inr (.inr (.inl f37)))))] H := hP
                  have hD : va_D A [(h0, .inr (10, fs0)), (a0, .inl (T 0, 4, .inl (upd f34 1 x2))), (a1, .inl (T 0, 4, .inl (upd f35 1 x3))), (a2, .inl (T 1, 120, .inr (.inl f36))), (a3, .inl (T 3, 120, .inr (.inr (.inr (.inl f37)))))] := hD
                  refine lv_iconst (v := 0) hx hb dX13_sheet_67 (by decide) ?_
                  refine lv_istore (lv' := [(4, .int 0), (0, .ref h0), (1, .int 1), (2, .int x2), (3, .int x3)]) hx hb dX13_sheet_68 hl (by decide) rfl (fun ls hl => ?_)
                  refine loopW (σ := (Int32) × (Nat → Int64) × (Nat → UInt64)) (fun x9 ls H locs => lv_has ls 5 [(4, .int x9.1), (0, .ref h0), (1, .int 1), (2, .int x2), (3, .int x3)] ∧ va_P D vwCl [(h0, .inr (10, fs0)), (a0, .inl (T 0, 4, .inl (upd f34 1 x2))), (a1, .inl (T 0, 4, .inl (upd f35 1 x3))), (a2, .inl (T 1, 120, .inr (.inl x9.2.1))), (a3, .inl (T 3, 120, .inr (.inr (.inr (.inl x9.2.2)))))] H ∧ va_D A [(h0, .inr (10, fs0)), (a0, .inl (T 0, 4, .inl (upd f34 1 x2))), (a1, .inl (T 0, 4, .inl (upd f35 1 x3))), (a2, .inl (T 1, 120, .inr (.inl x9.2.1))), (a3, .inl (T 3, 120, .inr (.inr (.inr (.inl x9.2.2)))))] ∧ va_S A s.heap H locs ∧ (0 ≤ x9.1.toInt)) (fun x9 => (30 - x9.1.toInt).toNat) (fun x9 ls H locs hI ih => ?_) (0, f36, f37) ls ⟨lv_sub hl [0, 1, 2, 3, 4] rfl, hP.sub [0, 1, 2, 3, 4] rfl, hD.sub [0, 1, 2, 3, 4] (by decide) rfl, hS, (by (try dsimp only); decide)⟩
                  obtain ⟨ii, f36, f37⟩ := x9
                  obtain ⟨hl, hP, hD, hS, hinv⟩ := hI
                  have hl : lv_has ls 5 [(4, .int ii), (0, .ref h0), (1, .int 1), (2, .int x2), (3, .int x3)] := hl
                  have hP : va_P D vwCl [(h0, .inr (10, fs0)), (a0, .inl (T 0, 4, .inl (upd f34 1 x2))), (a1, .inl (T 0, 4, .inl (upd f35 1 x3))), (a2, .inl (T 1, 120, .inr (.inl f36))), (a3, .inl (T 3, 120, .inr (.inr (.inr (.inl f37)))))] H := hP
                  have hD : va_D A [(h0, .inr (10, fs0)), (a0, .inl (T 0, 4, .inl (upd f34 1 x2))), (a1, .inl (T 0, 4, .inl (upd f35 1 x3))), (a2, .inl (T 1, 120, .inr (.inl f36))), (a3, .inl (T 3, 120, .inr (.inr (.inr (.inl f37)))))] := hD
                  have hinv : 0 ≤ ii.toInt := hinv
                  refine lv_iload hx hb dX13_sheet_70 (lv_at hl 0 rfl) ?_
                  refine lv_bipush (v := 30) hx hb dX13_sheet_72 (by decide) ?_
                  refine lv_icmp_ge (tgt := 109) hx hb dX13_sheet_74 (by decide) (fun c_129 => ?_) (fun c_129 => ?_)
                  · rw [fa_le] at c_129
                    try rw [ti_30] at c_129
                    refine lv_iconst (v := 1) hx hb dX13_sheet_109 (by decide) ?_
                    exact W.iret hx hb hr (fun t ht hW => ⟨⟨_, (), rfl, (by first | decide | (unfold sp_sheet; (repeat' split) <;> first | rfl | (exfalso; omega))), by rw [ht]; exact hP.sub [] rfl, hD.sub [] (by decide) rfl⟩, hS.F ht⟩) hS.2.2 dX13_sheet_110
                  · rw [fa_le] at c_129
                    try rw [ti_30] at c_129
                    refine lv_aload_n hx hb dX13_sheet_77 rfl (lv_at hl 1 rfl) ?_
                    refine va_get (D := D) (ci := 10) (v := .ref a2) (C := RX13) (T := TX13) (N := 45) hx hb hts in_X13_sheet_X13 hown hE.1 hP 0 rfl rfl 36 (by decide) (hts (.fieldLink RX13 110 "ClauseBookModel" "whole" "[J") (List.mem_of_getElem? (i := 5) rfl)) (fun _ h9 => h9) e0_36 dX13_sheet_78 ?_
                    refine lv_bipush (v := 30) hx hb dX13_sheet_81 (by decide) ?_
                    refine lv_iload_n hx hb dX13_sheet_83 rfl (lv_at hl 2 rfl) ?_
                    refine lv_imul hx hb dX13_sheet_84 ?_
                    refine lv_topi (fun z_130 ez_130 => ?_)
                    obtain rfl : z_130 = 30 := ez_130.trans (by decide)
                    refine lv_iload hx hb dX13_sheet_85 (lv_at hl 0 rfl) ?_
                    refine lv_iadd hx hb dX13_sheet_87 ?_
                    refine lv_lconst (v := 0) hx hb dX13_sheet_88 (by decide) ?_
                    refine va_last hx hb hE.1 hP hD hS 3 1 rfl rfl (by rw [vp_in_iff, fb_addI (by rw [ti_30]; omega) (by rw [ti_30]; omega), ti_30]; omega) dX13_sheet_89 (fun H locs hP hD hS => ?_)
                    have hP : va_P D vwCl [(h0, .inr (10, fs0)), (a0, .inl (T 0, 4, .inl (upd f34 1 x2))), (a1, .inl (T 0, 4, .inl (upd f35 1 x3))), (a2, .inl (T 1, 120, .inr (.inl (vp_updL f36 ((30 + ii).toNatClampNeg) 0)))), (a3, .inl (T 3, 120, .inr (.inr (.inr (.inl f37)))))] H := hP
                    have hD : va_D A [(h0, .inr (10, fs0)), (a0, .inl (T 0, 4, .inl (upd f34 1 x2))), (a1, .inl (T 0, 4, .inl (upd f35 1 x3))), (a2, .inl (T 1, 120, .inr (.inl (vp_updL f36 ((30 + ii).toNatClampNeg) 0)))), (a3, .inl (T 3, 120, .inr (.inr (.inr (.inl f37)))))] := hD
                    refine lv_aload_n hx hb dX13_sheet_90 rfl (lv_at hl 1 rfl) ?_
                    refine va_get (D := D) (ci := 10) (v := .ref a3) (C := RX13) (T := TX13) (N := 45) hx hb hts in_X13_sheet_X13 hown hE.1 hP 0 rfl rfl 37 (by decide) (hts (.fieldLink RX13 113 "ClauseBookModel" "host" "[D") (List.mem_of_getElem? (i := 6) rfl)) (fun _ h9 => h9) e0_37 dX13_sheet_91 ?_
                    refine lv_bipush (v := 30) hx hb dX13_sheet_94 (by decide) ?_
                    refine lv_iload_n hx hb dX13_sheet_96 rfl (lv_at hl 2 rfl) ?_
                    refine lv_imul hx hb dX13_sheet_97 ?_
                    refine lv_topi (fun z_131 ez_131 => ?_)
                    obtain rfl : z_131 = 30 := ez_131.trans (by decide)
                    refine lv_iload hx hb dX13_sheet_98 (lv_at hl 0 rfl) ?_
                    refine lv_iadd hx hb dX13_sheet_100 ?_
                    refine lv_dconst0 hx hb dX13_sheet_101 ?_
                    refine va_dast hx hb hE.1 hP hD hS 4 3 rfl rfl (by rw [vp_in_iff, fb_addI (by rw [ti_30]; omega) (by rw [ti_30]; omega), ti_30]; omega) dX13_sheet_102 (fun H locs hP hD hS => ?_)
                    have hP : va_P D vwCl [(h0, .inr (10, fs0)), (a0, .inl (T 0, 4, .inl (upd f34 1 x2))), (a1, .inl (T 0, 4, .inl (upd f35 1 x3))), (a2, .inl (T 1, 120, .inr (.inl (vp_updL f36 ((30 + ii).toNatClampNeg) 0)))), (a3, .inl (T 3, 120, .inr (.inr (.inr (.inl (vf_upd f37 ((30 + ii).toNatClampNeg) FP.dconst0))))))] H := hP
                    have hD : va_D A [(h0, .inr (10, fs0)), (a0, .inl (T 0, 4, .inl (upd f34 1 x2))), (a1, .inl (T 0, 4, .inl (upd f35 1 x3))), (a2, .inl (T 1, 120, .inr (.inl (vp_updL f36 ((30 + ii).toNatClampNeg) 0)))), (a3, .inl (T 3, 120, .inr (.inr (.inr (.inl (vf_upd f37 ((30 + ii).toNatClampNeg) FP.dconst0))))))] := hD
                    obtain ⟨z_132, ez_132⟩ : ∃ y : Int32, y = ii + 1 := ⟨_, rfl⟩
                    refine lv_iinc (v := z_132) (lv' := [(4, .int z_132), (0, .ref h0), (1, .int 1), (2, .int x2), (3, .int x3)]) hx hb dX13_sheet_103 hl (k := 0) rfl (by rw [ez_132]; rfl) (by decide) rfl (fun ls hl => ?_)
                    refine lv_goto (tgt := 70) hx hb dX13_sheet_106 (by decide) ?_
                    exact ih (z_132, (vp_updL f36 ((30 + ii).toNatClampNeg) 0), (vf_upd f37 ((30 + ii).toNatClampNeg) FP.dconst0)) ls _ _ ⟨lv_sub hl [0, 1, 2, 3, 4] rfl, hP.sub [0, 1, 2, 3, 4] rfl, hD.sub [0, 1, 2, 3, 4] (by decide) rfl, hS, (by subst_vars; (try dsimp only); rw [inc1 (n := 30) (by omega) (by decide)]; omega)⟩ (by subst_vars; (try dsimp only); rw [inc1 (n := 30) (by omega) (by decide)]; omega)
                · rw [fa_le] at c_128
                  try rw [ti_0] at c_128
                  refine lv_iconst (v := 0) hx hb dX13_sheet_61 (by decide) ?_
                  refine lv_goto (tgt := 66) hx hb dX13_sheet_62 (by decide) ?_
                  refine va_iast hx hb hE.1 hP hD hS 2 0 rfl rfl (by unfold vp_in; decide) dX13_sheet_66 (fun H locs hP hD hS => ?_)
                  have hP : va_P D vwCl [(h0, .inr (10, fs0)), (a0, .inl (T 0, 4, .inl (upd f34 1 x2))), (a1, .inl (T 0, 4, .inl (upd f35 1 0))), (a2, .inl (T 1, 120, .inr (.inl f36))), (a3, .inl (T 3, 120, .inr (.inr (.inr (.inl f37)))))] H := hP
                  have hD : va_D A [(h0, .inr (10, fs0)), (a0, .inl (T 0, 4, .inl (upd f34 1 x2))), (a1, .inl (T 0, 4, .inl (upd f35 1 0))), (a2, .inl (T 1, 120, .inr (.inl f36))), (a3, .inl (T 3, 120, .inr (.inr (.inr (.inl f37)))))] := hD
                  refine lv_iconst (v := 0) hx hb dX13_sheet_67 (by decide) ?_
                  refine lv_istore (lv' := [(4, .int 0), (0, .ref h0), (1, .int 1), (2, .int x2), (3, .int x3)]) hx hb dX13_sheet_68 hl (by decide) rfl (fun ls hl => ?_)
                  refine loopW (σ := (Int32) × (Nat → Int64) × (Nat → UInt64)) (fun x9 ls H locs => lv_has ls 5 [(4, .int x9.1), (0, .ref h0), (1, .int 1), (2, .int x2), (3, .int x3)] ∧ va_P D vwCl [(h0, .inr (10, fs0)), (a0, .inl (T 0, 4, .inl (upd f34 1 x2))), (a1, .inl (T 0, 4, .inl (upd f35 1 0))), (a2, .inl (T 1, 120, .inr (.inl x9.2.1))), (a3, .inl (T 3, 120, .inr (.inr (.inr (.inl x9.2.2)))))] H ∧ va_D A [(h0, .inr (10, fs0)), (a0, .inl (T 0, 4, .inl (upd f34 1 x2))), (a1, .inl (T 0, 4, .inl (upd f35 1 0))), (a2, .inl (T 1, 120, .inr (.inl x9.2.1))), (a3, .inl (T 3, 120, .inr (.inr (.inr (.inl x9.2.2)))))] ∧ va_S A s.heap H locs ∧ (0 ≤ x9.1.toInt)) (fun x9 => (30 - x9.1.toInt).toNat) (fun x9 ls H locs hI ih => ?_) (0, f36, f37) ls ⟨lv_sub hl [0, 1, 2, 3, 4] rfl, hP.sub [0, 1, 2, 3, 4] rfl, hD.sub [0, 1, 2, 3, 4] (by decide) rfl, hS, (by (try dsimp only); decide)⟩
                  obtain ⟨ii, f36, f37⟩ := x9
                  obtain ⟨hl, hP, hD, hS, hinv⟩ := hI
                  have hl : lv_has ls 5 [(4, .int ii), (0, .ref h0), (1, .int 1), (2, .int x2), (3, .int x3)] := hl
                  have hP : va_P D vwCl [(h0, .inr (10, fs0)), (a0, .inl (T 0, 4, .inl (upd f34 1 x2))), (a1, .inl (T 0, 4, .inl (upd f35 1 0))), (a2, .inl (T 1, 120, .inr (.inl f36))), (a3, .inl (T 3, 120, .inr (.inr (.inr (.inl f37)))))] H := hP
                  have hD : va_D A [(h0, .inr (10, fs0)), (a0, .inl (T 0, 4, .inl (upd f34 1 x2))), (a1, .inl (T 0, 4, .inl (upd f35 1 0))), (a2, .inl (T 1, 120, .inr (.inl f36))), (a3, .inl (T 3, 120, .inr (.inr (.inr (.inl f37)))))] := hD
                  have hinv : 0 ≤ ii.toInt := hinv
                  refine lv_iload hx hb dX13_sheet_70 (lv_at hl 0 rfl) ?_
                  refine lv_bipush (v := 30) hx hb dX13_sheet_72 (by decide) ?_
                  refine lv_icmp_ge (tgt := 109) hx hb dX13_sheet_74 (by decide) (fun c_133 => ?_) (fun c_133 => ?_)
                  · rw [fa_le] at c_133
                    try rw [ti_30] at c_133
                    refine lv_iconst (v := 1) hx hb dX13_sheet_109 (by decide) ?_
                    exact W.iret hx hb hr (fun t ht hW => ⟨⟨_, (), rfl, (by first | decide | (unfold sp_sheet; (repeat' split) <;> first | rfl | (exfalso; omega))), by rw [ht]; exact hP.sub [] rfl, hD.sub [] (by decide) rfl⟩, hS.F ht⟩) hS.2.2 dX13_sheet_110
                  · rw [fa_le] at c_133
                    try rw [ti_30] at c_133
                    refine lv_aload_n hx hb dX13_sheet_77 rfl (lv_at hl 1 rfl) ?_
                    refine va_get (D := D) (ci := 10) (v := .ref a2) (C := RX13) (T := TX13) (N := 45) hx hb hts in_X13_sheet_X13 hown hE.1 hP 0 rfl rfl 36 (by decide) (hts (.fieldLink RX13 110 "ClauseBookModel" "whole" "[J") (List.mem_of_getElem? (i := 5) rfl)) (fun _ h9 => h9) e0_36 dX13_sheet_78 ?_
                    refine lv_bipush (v := 30) hx hb dX13_sheet_81 (by decide) ?_
                    refine lv_iload_n hx hb dX13_sheet_83 rfl (lv_at hl 2 rfl) ?_
                    refine lv_imul hx hb dX13_sheet_84 ?_
                    refine lv_topi (fun z_134 ez_134 => ?_)
                    obtain rfl : z_134 = 30 := ez_134.trans (by decide)
                    refine lv_iload hx hb dX13_sheet_85 (lv_at hl 0 rfl) ?_
                    refine lv_iadd hx hb dX13_sheet_87 ?_
                    refine lv_lconst (v := 0) hx hb dX13_sheet_88 (by decide) ?_
                    refine va_last hx hb hE.1 hP hD hS 3 1 rfl rfl (by rw [vp_in_iff, fb_addI (by rw [ti_30]; omega) (by rw [ti_30]; omega), ti_30]; omega) dX13_sheet_89 (fun H locs hP hD hS => ?_)
                    have hP : va_P D vwCl [(h0, .inr (10, fs0)), (a0, .inl (T 0, 4, .inl (upd f34 1 x2))), (a1, .inl (T 0, 4, .inl (upd f35 1 0))), (a2, .inl (T 1, 120, .inr (.inl (vp_updL f36 ((30 + ii).toNatClampNeg) 0)))), (a3, .inl (T 3, 120, .inr (.inr (.inr (.inl f37)))))] H := hP
                    have hD : va_D A [(h0, .inr (10, fs0)), (a0, .inl (T 0, 4, .inl (upd f34 1 x2))), (a1, .inl (T 0, 4, .inl (upd f35 1 0))), (a2, .inl (T 1, 120, .inr (.inl (vp_updL f36 ((30 + ii).toNatClampNeg) 0)))), (a3, .inl (T 3, 120, .inr (.inr (.inr (.inl f37)))))] := hD
                    refine lv_aload_n hx hb dX13_sheet_90 rfl (lv_at hl 1 rfl) ?_
                    refine va_get (D := D) (ci := 10) (v := .ref a3) (C := RX13) (T := TX13) (N := 45) hx hb hts in_X13_sheet_X13 hown hE.1 hP 0 rfl rfl 37 (by decide) (hts (.fieldLink RX13 113 "ClauseBookModel" "host" "[D") (List.mem_of_getElem? (i := 6) rfl)) (fun _ h9 => h9) e0_37 dX13_sheet_91 ?_
                    refine lv_bipush (v := 30) hx hb dX13_sheet_94 (by decide) ?_
                    refine lv_iload_n hx hb dX13_sheet_96 rfl (lv_at hl 2 rfl) ?_
                    refine lv_imul hx hb dX13_sheet_97 ?_
                    refine lv_topi (fun z_135 ez_135 => ?_)
                    obtain rfl : z_135 = 30 := ez_135.trans (by decide)
                    refine lv_iload hx hb dX13_sheet_98 (lv_at hl 0 rfl) ?_
                    refine lv_iadd hx hb dX13_sheet_100 ?_
                    refine lv_dconst0 hx hb dX13_sheet_101 ?_
                    refine va_dast hx hb hE.1 hP hD hS 4 3 rfl rfl (by rw [vp_in_iff, fb_addI (by rw [ti_30]; omega) (by rw [ti_30]; omega), ti_30]; omega) dX13_sheet_102 (fun H locs hP hD hS => ?_)
                    have hP : va_P D vwCl [(h0, .inr (10, fs0)), (a0, .inl (T 0, 4, .inl (upd f34 1 x2))), (a1, .inl (T 0, 4, .inl (upd f35 1 0))), (a2, .inl (T 1, 120, .inr (.inl (vp_updL f36 ((30 + ii).toNatClampNeg) 0)))), (a3, .inl (T 3, 120, .inr (.inr (.inr (.inl (vf_upd f37 ((30 + ii).toNatClampNeg) FP.dconst0))))))] H := hP
                    have hD : va_D A [(h0, .inr (10, fs0)), (a0, .inl (T 0, 4, .inl (upd f34 1 x2))), (a1, .inl (T 0, 4, .inl (upd f35 1 0))), (a2, .inl (T 1, 120, .inr (.inl (vp_updL f36 ((30 + ii).toNatClampNeg) 0)))), (a3, .inl (T 3, 120, .inr (.inr (.inr (.inl (vf_upd f37 ((30 + ii).toNatClampNeg) FP.dconst0))))))] := hD
                    obtain ⟨z_136, ez_136⟩ : ∃ y : Int32, y = ii + 1 := ⟨_, rfl⟩
                    refine lv_iinc (v := z_136) (lv' := [(4, .int z_136), (0, .ref h0), (1, .int 1), (2, .int x2), (3, .int x3)]) hx hb dX13_sheet_103 hl (k := 0) rfl (by rw [ez_136]; rfl) (by decide) rfl (fun ls hl => ?_)
                    refine lv_goto (tgt := 70) hx hb dX13_sheet_106 (by decide) ?_
                    exact ih (z_136, (vp_updL f36 ((30 + ii).toNatClampNeg) 0), (vf_upd f37 ((30 + ii).toNatClampNeg) FP.dconst0)) ls _ _ ⟨lv_sub hl [0, 1, 2, 3, 4] rfl, hP.sub [0, 1, 2, 3, 4] rfl, hD.sub [0, 1, 2, 3, 4] (by decide) rfl, hS, (by subst_vars; (try dsimp only); rw [inc1 (n := 30) (by omega) (by decide)]; omega)⟩ (by subst_vars; (try dsimp only); rw [inc1 (n := 30) (by omega) (by decide)]; omega)
              · refine lv_aload_n hx hb dX13_sheet_45 rfl (lv_at hl 0 rfl) ?_
                refine va_get (D := D) (ci := 10) (v := .ref a0) (C := RX13) (T := TX13) (N := 45) hx hb hts in_X13_sheet_X13 hown hE.1 hP 0 rfl rfl 34 (by decide) (hts (.fieldLink RX13 104 "ClauseBookModel" "sorts" "[I") (List.mem_of_getElem? (i := 3) rfl)) (fun _ h9 => h9) e0_34 dX13_sheet_46 ?_
                refine lv_iload_n hx hb dX13_sheet_49 rfl (lv_at hl 1 rfl) ?_
                refine lv_iload_n hx hb dX13_sheet_50 rfl (lv_at hl 2 rfl) ?_
                refine va_iast hx hb hE.1 hP hD hS 1 0 rfl rfl (by unfold vp_in; decide) dX13_sheet_51 (fun H locs hP hD hS => ?_)
                have hP : va_P D vwCl [(h0, .inr (10, fs0)), (a0, .inl (T 0, 4, .inl (upd f34 2 x2))), (a1, .inl (T 0, 4, .inl f35)), (a2, .inl (T 1, 120, .inr (.inl f36))), (a3, .inl (T 3, 120, .inr (.inr (.inr (.inl f37)))))] H := hP
                have hD : va_D A [(h0, .inr (10, fs0)), (a0, .inl (T 0, 4, .inl (upd f34 2 x2))), (a1, .inl (T 0, 4, .inl f35)), (a2, .inl (T 1, 120, .inr (.inl f36))), (a3, .inl (T 3, 120, .inr (.inr (.inr (.inl f37)))))] := hD
                refine lv_aload_n hx hb dX13_sheet_52 rfl (lv_at hl 0 rfl) ?_
                refine va_get (D := D) (ci := 10) (v := .ref a1) (C := RX13) (T := TX13) (N := 45) hx hb hts in_X13_sheet_X13 hown hE.1 hP 0 rfl rfl 35 (by decide) (hts (.fieldLink RX13 107 "ClauseBookModel" "sizes" "[I") (List.mem_of_getElem? (i := 4) rfl)) (fun _ h9 => h9) e0_35 dX13_sheet_53 ?_
                refine lv_iload_n hx hb dX13_sheet_56 rfl (lv_at hl 1 rfl) ?_
                refine lv_iload_n hx hb dX13_sheet_57 rfl (lv_at hl 2 rfl) ?_
                refine lv_if_ge (tgt := 65) hx hb dX13_sheet_58 (by decide) (fun c_137 => ?_) (fun c_137 => ?_)
                · rw [fa_le] at c_137
                  try rw [ti_0] at c_137
                  refine lv_iload_n hx hb dX13_sheet_65 rfl (lv_at hl 3 rfl) ?_
                  refine va_iast hx hb hE.1 hP hD hS 2 0 rfl rfl (by unfold vp_in; decide) dX13_sheet_66 (fun H locs hP hD hS => ?_)
                  have hP : va_P D vwCl [(h0, .inr (10, fs0)), (a0, .inl (T 0, 4, .inl (upd f34 2 x2))), (a1, .inl (T 0, 4, .inl (upd f35 2 x3))), (a2, .inl (T 1, 120, .inr (.inl f36))), (a3, .inl (T 3, 120, .inr (.inr (.inr (.inl f37)))))] H := hP
                  have hD : va_D A [(h0, .inr (10, fs0)), (a0, .inl (T 0, 4, .inl (upd f34 2 x2))), (a1, .inl (T 0, 4, .inl (upd f35 2 x3))), (a2, .inl (T 1, 120, .inr (.inl f36))), (a3, .inl (T 3, 120, .inr (.inr (.inr (.inl f37)))))] := hD
                  refine lv_iconst (v := 0) hx hb dX13_sheet_67 (by decide) ?_
                  refine lv_istore (lv' := [(4, .int 0), (0, .ref h0), (1, .int 2), (2, .int x2), (3, .int x3)]) hx hb dX13_sheet_68 hl (by decide) rfl (fun ls hl => ?_)
                  refine loopW (σ := (Int32) × (Nat → Int64) × (Nat → UInt64)) (fun x9 ls H locs => lv_has ls 5 [(4, .int x9.1), (0, .ref h0), (1, .int 2), (2, .int x2), (3, .int x3)] ∧ va_P D vwCl [(h0, .inr (10, fs0)), (a0, .inl (T 0, 4, .inl (upd f34 2 x2))), (a1, .inl (T 0, 4, .inl (upd f35 2 x3))), (a2, .inl (T 1, 120, .inr (.inl x9.2.1))), (a3, .inl (T 3, 120, .inr (.inr (.inr (.inl x9.2.2)))))] H ∧ va_D A [(h0, .inr (10, fs0)), (a0, .inl (T 0, 4, .inl (upd f34 2 x2))), (a1, .inl (T 0, 4, .inl (upd f35 2 x3))), (a2, .inl (T 1, 120, .inr (.inl x9.2.1))), (a3, .inl (T 3, 120, .inr (.inr (.inr (.inl x9.2.2)))))] ∧ va_S A s.heap H locs ∧ (0 ≤ x9.1.toInt)) (fun x9 => (30 - x9.1.toInt).toNat) (fun x9 ls H locs hI ih => ?_) (0, f36, f37) ls ⟨lv_sub hl [0, 1, 2, 3, 4] rfl, hP.sub [0, 1, 2, 3, 4] rfl, hD.sub [0, 1, 2, 3, 4] (by decide) rfl, hS, (by (try dsimp only); decide)⟩
                  obtain ⟨ii, f36, f37⟩ := x9
                  obtain ⟨hl, hP, hD, hS, hinv⟩ := hI
                  have hl : lv_has ls 5 [(4, .int ii), (0, .ref h0), (1, .int 2), (2, .int x2), (3, .int x3)] := hl
                  have hP : va_P D vwCl [(h0, .inr (10, fs0)), (a0, .inl (T 0, 4, .inl (upd f34 2 x2))), (a1, .inl (T 0, 4, .inl (upd f35 2 x3))), (a2, .inl (T 1, 120, .inr (.inl f36))), (a3, .inl (T 3, 120, .inr (.inr (.inr (.inl f37)))))] H := hP
                  have hD : va_D A [(h0, .inr (10, fs0)), (a0, .inl (T 0, 4, .inl (upd f34 2 x2))), (a1, .inl (T 0, 4, .inl (upd f35 2 x3))), (a2, .inl (T 1, 120, .inr (.inl f36))), (a3, .inl (T 3, 120, .inr (.inr (.inr (.inl f37)))))] := hD
                  have hinv : 0 ≤ ii.toInt := hinv
                  refine lv_iload hx hb dX13_sheet_70 (lv_at hl 0 rfl) ?_
                  refine lv_bipush (v := 30) hx hb dX13_sheet_72 (by decide) ?_
                  refine lv_icmp_ge (tgt := 109) hx hb dX13_sheet_74 (by decide) (fun c_138 => ?_) (fun c_138 => ?_)
                  · rw [fa_le] at c_138
                    try rw [ti_30] at c_138
                    refine lv_iconst (v := 1) hx hb dX13_sheet_109 (by decide) ?_
                    exact W.iret hx hb hr (fun t ht hW => ⟨⟨_, (), rfl, (by first | decide | (unfold sp_sheet; (repeat' split) <;> first | rfl | (exfalso; omega))), by rw [ht]; exact hP.sub [] rfl, hD.sub [] (by decide) rfl⟩, hS.F ht⟩) hS.2.2 dX13_sheet_110
                  · rw [fa_le] at c_138
                    try rw [ti_30] at c_138
                    refine lv_aload_n hx hb dX13_sheet_77 rfl (lv_at hl 1 rfl) ?_
                    refine va_get (D := D) (ci := 10) (v := .ref a2) (C := RX13) (T := TX13) (N := 45) hx hb hts in_X13_sheet_X13 hown hE.1 hP 0 rfl rfl 36 (by decide) (hts (.fieldLink RX13 110 "ClauseBookModel" "whole" "[J") (List.mem_of_getElem? (i := 5) rfl)) (fun _ h9 => h9) e0_36 dX13_sheet_78 ?_
                    refine lv_bipush (v := 30) hx hb dX13_sheet_81 (by decide) ?_
                    refine lv_iload_n hx hb dX13_sheet_83 rfl (lv_at hl 2 rfl) ?_
                    refine lv_imul hx hb dX13_sheet_84 ?_
                    refine lv_topi (fun z_139 ez_139 => ?_)
                    obtain rfl : z_139 = 60 := ez_139.trans (by decide)
                    refine lv_iload hx hb dX13_sheet_85 (lv_at hl 0 rfl) ?_
                    refine lv_iadd hx hb dX13_sheet_87 ?_
                    refine lv_lconst (v := 0) hx hb dX13_sheet_88 (by decide) ?_
                    refine va_last hx hb hE.1 hP hD hS 3 1 rfl rfl (by rw [vp_in_iff, fb_addI (by rw [ti_60]; omega) (by rw [ti_60]; omega), ti_60]; omega) dX13_sheet_89 (fun H locs hP hD hS => ?_)
                    have hP : va_P D vwCl [(h0, .inr (10, fs0)), (a0, .inl (T 0, 4, .inl (upd f34 2 x2))), (a1, .inl (T 0, 4, .inl (upd f35 2 x3))), (a2, .inl (T 1, 120, .inr (.inl (vp_updL f36 ((60 + ii).toNatClampNeg) 0)))), (a3, .inl (T 3, 120, .inr (.inr (.inr (.inl f37)))))] H := hP
                    have hD : va_D A [(h0, .inr (10, fs0)), (a0, .inl (T 0, 4, .inl (upd f34 2 x2))), (a1, .inl (T 0, 4, .inl (upd f35 2 x3))), (a2, .inl (T 1, 120, .inr (.inl (vp_updL f36 ((60 + ii).toNatClampNeg) 0)))), (a3, .inl (T 3, 120, .inr (.inr (.inr (.inl f37)))))] := hD
                    refine lv_aload_n hx hb dX13_sheet_90 rfl (lv_at hl 1 rfl) ?_
                    refine va_get (D := D) (ci := 10) (v := .ref a3) (C := RX13) (T := TX13) (N := 45) hx hb hts in_X13_sheet_X13 hown hE.1 hP 0 rfl rfl 37 (by decide) (hts (.fieldLink RX13 113 "ClauseBookModel" "host" "[D") (List.mem_of_getElem? (i := 6) rfl)) (fun _ h9 => h9) e0_37 dX13_sheet_91 ?_
                    refine lv_bipush (v := 30) hx hb dX13_sheet_94 (by decide) ?_
                    refine lv_iload_n hx hb dX13_sheet_96 rfl (lv_at hl 2 rfl) ?_
                    refine lv_imul hx hb dX13_sheet_97 ?_
                    refine lv_topi (fun z_140 ez_140 => ?_)
                    obtain rfl : z_140 = 60 := ez_140.trans (by decide)
                    refine lv_iload hx hb dX13_sheet_98 (lv_at hl 0 rfl) ?_
                    refine lv_iadd hx hb dX13_sheet_100 ?_
                    refine lv_dconst0 hx hb dX13_sheet_101 ?_
                    refine va_dast hx hb hE.1 hP hD hS 4 3 rfl rfl (by rw [vp_in_iff, fb_addI (by rw [ti_60]; omega) (by rw [ti_60]; omega), ti_60]; omega) dX13_sheet_102 (fun H locs hP hD hS => ?_)
                    have hP : va_P D vwCl [(h0, .inr (10, fs0)), (a0, .inl (T 0, 4, .inl (upd f34 2 x2))), (a1, .inl (T 0, 4, .inl (upd f35 2 x3))), (a2, .inl (T 1, 120, .inr (.inl (vp_updL f36 ((60 + ii).toNatClampNeg) 0)))), (a3, .inl (T 3, 120, .inr (.inr (.inr (.inl (vf_upd f37 ((60 + ii).toNatClampNeg) FP.dconst0))))))] H := hP
                    have hD : va_D A [(h0, .inr (10, fs0)), (a0, .inl (T 0, 4, .inl (upd f34 2 x2))), (a1, .inl (T 0, 4, .inl (upd f35 2 x3))), (a2, .inl (T 1, 120, .inr (.inl (vp_updL f36 ((60 + ii).toNatClampNeg) 0)))), (a3, .inl (T 3, 120, .inr (.inr (.inr (.inl (vf_upd f37 ((60 + ii).toNatClampNeg) FP.dconst0))))))] := hD
                    obtain ⟨z_141, ez_141⟩ : ∃ y : Int32, y = ii + 1 := ⟨_, rfl⟩
                    refine lv_iinc (v := z_141) (lv' := [(4, .int z_141), (0, .ref h0), (1, .int 2), (2, .int x2), (3, .int x3)]) hx hb dX13_sheet_103 hl (k := 0) rfl (by rw [ez_141]; rfl) (by decide) rfl (fun ls hl => ?_)
                    refine lv_goto (tgt := 70) hx hb dX13_sheet_106 (by decide) ?_
                    exact ih (z_141, (vp_updL f36 ((60 + ii).toNatClampNeg) 0), (vf_upd f37 ((60 + ii).toNatClampNeg) FP.dconst0)) ls _ _ ⟨lv_sub hl [0, 1, 2, 3, 4] rfl, hP.sub [0, 1, 2, 3, 4] rfl, hD.sub [0, 1, 2, 3, 4] (by decide) rfl, hS, (by subst_vars; (try dsimp only); rw [inc1 (n := 30) (by omega) (by decide)]; omega)⟩ (by subst_vars; (try dsimp only); rw [inc1 (n := 30) (by omega) (by decide)]; omega)
                · rw [fa_le] at c_137
                  try rw [ti_0] at c_137
                  refine lv_iconst (v := 0) hx hb dX13_sheet_61 (by decide) ?_
                  refine lv_goto (tgt := 66) hx hb dX13_sheet_62 (by decide) ?_
                  refine va_iast hx hb hE.1 hP hD hS 2 0 rfl rfl (by unfold vp_in; decide) dX13_sheet_66 (fun H locs hP hD hS => ?_)
                  have hP : va_P D vwCl [(h0, .inr (10, fs0)), (a0, .inl (T 0, 4, .inl (upd f34 2 x2))), (a1, .inl (T 0, 4, .inl (upd f35 2 0))), (a2, .inl (T 1, 120, .inr (.inl f36))), (a3, .inl (T 3, 120, .inr (.inr (.inr (.inl f37)))))] H := hP
                  have hD : va_D A [(h0, .inr (10, fs0)), (a0, .inl (T 0, 4, .inl (upd f34 2 x2))), (a1, .inl (T 0, 4, .inl (upd f35 2 0))), (a2, .inl (T 1, 120, .inr (.inl f36))), (a3, .inl (T 3, 120, .inr (.inr (.inr (.inl f37)))))] := hD
                  refine lv_iconst (v := 0) hx hb dX13_sheet_67 (by decide) ?_
                  refine lv_istore (lv' := [(4, .int 0), (0, .ref h0), (1, .int 2), (2, .int x2), (3, .int x3)]) hx hb dX13_sheet_68 hl (by decide) rfl (fun ls hl => ?_)
                  refine loopW (σ := (Int32) × (Nat → Int64) × (Nat → UInt64)) (fun x9 ls H locs => lv_has ls 5 [(4, .int x9.1), (0, .ref h0), (1, .int 2), (2, .int x2), (3, .int x3)] ∧ va_P D vwCl [(h0, .inr (10, fs0)), (a0, .inl (T 0, 4, .inl (upd f34 2 x2))), (a1, .inl (T 0, 4, .inl (upd f35 2 0))), (a2, .inl (T 1, 120, .inr (.inl x9.2.1))), (a3, .inl (T 3, 120, .inr (.inr (.inr (.inl x9.2.2)))))] H ∧ va_D A [(h0, .inr (10, fs0)), (a0, .inl (T 0, 4, .inl (upd f34 2 x2))), (a1, .inl (T 0, 4, .inl (upd f35 2 0))), (a2, .inl (T 1, 120, .inr (.inl x9.2.1))), (a3, .inl (T 3, 120, .inr (.inr (.inr (.inl x9.2.2)))))] ∧ va_S A s.heap H locs ∧ (0 ≤ x9.1.toInt)) (fun x9 => (30 - x9.1.toInt).toNat) (fun x9 ls H locs hI ih => ?_) (0, f36, f37) ls ⟨lv_sub hl [0, 1, 2, 3, 4] rfl, hP.sub [0, 1, 2, 3, 4] rfl, hD.sub [0, 1, 2, 3, 4] (by decide) rfl, hS, (by (try dsimp only); decide)⟩
                  obtain ⟨ii, f36, f37⟩ := x9
                  obtain ⟨hl, hP, hD, hS, hinv⟩ := hI
                  have hl : lv_has ls 5 [(4, .int ii), (0, .ref h0), (1, .int 2), (2, .int x2), (3, .int x3)] := hl
                  have hP : va_P D vwCl [(h0, .inr (10, fs0)), (a0, .inl (T 0, 4, .inl (upd f34 2 x2))), (a1, .inl (T 0, 4, .inl (upd f35 2 0))), (a2, .inl (T 1, 120, .inr (.inl f36))), (a3, .inl (T 3, 120, .inr (.inr (.inr (.inl f37)))))] H := hP
                  have hD : va_D A [(h0, .inr (10, fs0)), (a0, .inl (T 0, 4, .inl (upd f34 2 x2))), (a1, .inl (T 0, 4, .inl (upd f35 2 0))), (a2, .inl (T 1, 120, .inr (.inl f36))), (a3, .inl (T 3, 120, .inr (.inr (.inr (.inl f37)))))] := hD
                  have hinv : 0 ≤ ii.toInt := hinv
                  refine lv_iload hx hb dX13_sheet_70 (lv_at hl 0 rfl) ?_
                  refine lv_bipush (v := 30) hx hb dX13_sheet_72 (by decide) ?_
                  refine lv_icmp_ge (tgt := 109) hx hb dX13_sheet_74 (by decide) (fun c_142 => ?_) (fun c_142 => ?_)
                  · rw [fa_le] at c_142
                    try rw [ti_30] at c_142
                    refine lv_iconst (v := 1) hx hb dX13_sheet_109 (by decide) ?_
                    exact W.iret hx hb hr (fun t ht hW => ⟨⟨_, (), rfl, (by first | decide | (unfold sp_sheet; (repeat' split) <;> first | rfl | (exfalso; omega))), by rw [ht]; exact hP.sub [] rfl, hD.sub [] (by decide) rfl⟩, hS.F ht⟩) hS.2.2 dX13_sheet_110
                  · rw [fa_le] at c_142
                    try rw [ti_30] at c_142
                    refine lv_aload_n hx hb dX13_sheet_77 rfl (lv_at hl 1 rfl) ?_
                    refine va_get (D := D) (ci := 10) (v := .ref a2) (C := RX13) (T := TX13) (N := 45) hx hb hts in_X13_sheet_X13 hown hE.1 hP 0 rfl rfl 36 (by decide) (hts (.fieldLink RX13 110 "ClauseBookModel" "whole" "[J") (List.mem_of_getElem? (i := 5) rfl)) (fun _ h9 => h9) e0_36 dX13_sheet_78 ?_
                    refine lv_bipush (v := 30) hx hb dX13_sheet_81 (by decide) ?_
                    refine lv_iload_n hx hb dX13_sheet_83 rfl (lv_at hl 2 rfl) ?_
                    refine lv_imul hx hb dX13_sheet_84 ?_
                    refine lv_topi (fun z_143 ez_143 => ?_)
                    obtain rfl : z_143 = 60 := ez_143.trans (by decide)
                    refine lv_iload hx hb dX13_sheet_85 (lv_at hl 0 rfl) ?_
                    refine lv_iadd hx hb dX13_sheet_87 ?_
                    refine lv_lconst (v := 0) hx hb dX13_sheet_88 (by decide) ?_
                    refine va_last hx hb hE.1 hP hD hS 3 1 rfl rfl (by rw [vp_in_iff, fb_addI (by rw [ti_60]; omega) (by rw [ti_60]; omega), ti_60]; omega) dX13_sheet_89 (fun H locs hP hD hS => ?_)
                    have hP : va_P D vwCl [(h0, .inr (10, fs0)), (a0, .inl (T 0, 4, .inl (upd f34 2 x2))), (a1, .inl (T 0, 4, .inl (upd f35 2 0))), (a2, .inl (T 1, 120, .inr (.inl (vp_updL f36 ((60 + ii).toNatClampNeg) 0)))), (a3, .inl (T 3, 120, .inr (.inr (.inr (.inl f37)))))] H := hP
                    have hD : va_D A [(h0, .inr (10, fs0)), (a0, .inl (T 0, 4, .inl (upd f34 2 x2))), (a1, .inl (T 0, 4, .inl (upd f35 2 0))), (a2, .inl (T 1, 120, .inr (.inl (vp_updL f36 ((60 + ii).toNatClampNeg) 0)))), (a3, .inl (T 3, 120, .inr (.inr (.inr (.inl f37)))))] := hD
                    refine lv_aload_n hx hb dX13_sheet_90 rfl (lv_at hl 1 rfl) ?_
                    refine va_get (D := D) (ci := 10) (v := .ref a3) (C := RX13) (T := TX13) (N := 45) hx hb hts in_X13_sheet_X13 hown hE.1 hP 0 rfl rfl 37 (by decide) (hts (.fieldLink RX13 113 "ClauseBookModel" "host" "[D") (List.mem_of_getElem? (i := 6) rfl)) (fun _ h9 => h9) e0_37 dX13_sheet_91 ?_
                    refine lv_bipush (v := 30) hx hb dX13_sheet_94 (by decide) ?_
                    refine lv_iload_n hx hb dX13_sheet_96 rfl (lv_at hl 2 rfl) ?_
                    refine lv_imul hx hb dX13_sheet_97 ?_
                    refine lv_topi (fun z_144 ez_144 => ?_)
                    obtain rfl : z_144 = 60 := ez_144.trans (by decide)
                    refine lv_iload hx hb dX13_sheet_98 (lv_at hl 0 rfl) ?_
                    refine lv_iadd hx hb dX13_sheet_100 ?_
                    refine lv_dconst0 hx hb dX13_sheet_101 ?_
                    refine va_dast hx hb hE.1 hP hD hS 4 3 rfl rfl (by rw [vp_in_iff, fb_addI (by rw [ti_60]; omega) (by rw [ti_60]; omega), ti_60]; omega) dX13_sheet_102 (fun H locs hP hD hS => ?_)
                    have hP : va_P D vwCl [(h0, .inr (10, fs0)), (a0, .inl (T 0, 4, .inl (upd f34 2 x2))), (a1, .inl (T 0, 4, .inl (upd f35 2 0))), (a2, .inl (T 1, 120, .inr (.inl (vp_updL f36 ((60 + ii).toNatClampNeg) 0)))), (a3, .inl (T 3, 120, .inr (.inr (.inr (.inl (vf_upd f37 ((60 + ii).toNatClampNeg) FP.dconst0))))))] H := hP
                    have hD : va_D A [(h0, .inr (10, fs0)), (a0, .inl (T 0, 4, .inl (upd f34 2 x2))), (a1, .inl (T 0, 4, .inl (upd f35 2 0))), (a2, .inl (T 1, 120, .inr (.inl (vp_updL f36 ((60 + ii).toNatClampNeg) 0)))), (a3, .inl (T 3, 120, .inr (.inr (.inr (.inl (vf_upd f37 ((60 + ii).toNatClampNeg) FP.dconst0))))))] := hD
                    obtain ⟨z_145, ez_145⟩ : ∃ y : Int32, y = ii + 1 := ⟨_, rfl⟩
                    refine lv_iinc (v := z_145) (lv' := [(4, .int z_145), (0, .ref h0), (1, .int 2), (2, .int x2), (3, .int x3)]) hx hb dX13_sheet_103 hl (k := 0) rfl (by rw [ez_145]; rfl) (by decide) rfl (fun ls hl => ?_)
                    refine lv_goto (tgt := 70) hx hb dX13_sheet_106 (by decide) ?_
                    exact ih (z_145, (vp_updL f36 ((60 + ii).toNatClampNeg) 0), (vf_upd f37 ((60 + ii).toNatClampNeg) FP.dconst0)) ls _ _ ⟨lv_sub hl [0, 1, 2, 3, 4] rfl, hP.sub [0, 1, 2, 3, 4] rfl, hD.sub [0, 1, 2, 3, 4] (by decide) rfl, hS, (by subst_vars; (try dsimp only); rw [inc1 (n := 30) (by omega) (by decide)]; omega)⟩ (by subst_vars; (try dsimp only); rw [inc1 (n := 30) (by omega) (by decide)]; omega)
              · refine lv_aload_n hx hb dX13_sheet_45 rfl (lv_at hl 0 rfl) ?_
                refine va_get (D := D) (ci := 10) (v := .ref a0) (C := RX13) (T := TX13) (N := 45) hx hb hts in_X13_sheet_X13 hown hE.1 hP 0 rfl rfl 34 (by decide) (hts (.fieldLink RX13 104 "ClauseBookModel" "sorts" "[I") (List.mem_of_getElem? (i := 3) rfl)) (fun _ h9 => h9) e0_34 dX13_sheet_46 ?_
                refine lv_iload_n hx hb dX13_sheet_49 rfl (lv_at hl 1 rfl) ?_
                refine lv_iload_n hx hb dX13_sheet_50 rfl (lv_at hl 2 rfl) ?_
                refine va_iast hx hb hE.1 hP hD hS 1 0 rfl rfl (by unfold vp_in; decide) dX13_sheet_51 (fun H locs hP hD hS => ?_)
                have hP : va_P D vwCl [(h0, .inr (10, fs0)), (a0, .inl (T 0, 4, .inl (upd f34 3 x2))), (a1, .inl (T 0, 4, .inl f35)), (a2, .inl (T 1, 120, .inr (.inl f36))), (a3, .inl (T 3, 120, .inr (.inr (.inr (.inl f37)))))] H := hP
                have hD : va_D A [(h0, .inr (10, fs0)), (a0, .inl (T 0, 4, .inl (upd f34 3 x2))), (a1, .inl (T 0, 4, .inl f35)), (a2, .inl (T 1, 120, .inr (.inl f36))), (a3, .inl (T 3, 120, .inr (.inr (.inr (.inl f37)))))] := hD
                refine lv_aload_n hx hb dX13_sheet_52 rfl (lv_at hl 0 rfl) ?_
                refine va_get (D := D) (ci := 10) (v := .ref a1) (C := RX13) (T := TX13) (N := 45) hx hb hts in_X13_sheet_X13 hown hE.1 hP 0 rfl rfl 35 (by decide) (hts (.fieldLink RX13 107 "ClauseBookModel" "sizes" "[I") (List.mem_of_getElem? (i := 4) rfl)) (fun _ h9 => h9) e0_35 dX13_sheet_53 ?_
                refine lv_iload_n hx hb dX13_sheet_56 rfl (lv_at hl 1 rfl) ?_
                refine lv_iload_n hx hb dX13_sheet_57 rfl (lv_at hl 2 rfl) ?_
                refine lv_if_ge (tgt := 65) hx hb dX13_sheet_58 (by decide) (fun c_146 => ?_) (fun c_146 => ?_)
                · rw [fa_le] at c_146
                  try rw [ti_0] at c_146
                  refine lv_iload_n hx hb dX13_sheet_65 rfl (lv_at hl 3 rfl) ?_
                  refine va_iast hx hb hE.1 hP hD hS 2 0 rfl rfl (by unfold vp_in; decide) dX13_sheet_66 (fun H locs hP hD hS => ?_)
                  have hP : va_P D vwCl [(h0, .inr (10, fs0)), (a0, .inl (T 0, 4, .inl (upd f34 3 x2))), (a1, .inl (T 0, 4, .inl (upd f35 3 x3))), (a2, .inl (T 1, 120, .inr (.inl f36))), (a3, .inl (T 3, 120, .inr (.inr (.inr (.inl f37)))))] H := hP
                  have hD : va_D A [(h0, .inr (10, fs0)), (a0, .inl (T 0, 4, .inl (upd f34 3 x2))), (a1, .inl (T 0, 4, .inl (upd f35 3 x3))), (a2, .inl (T 1, 120, .inr (.inl f36))), (a3, .inl (T 3, 120, .inr (.inr (.inr (.inl f37)))))] := hD
                  refine lv_iconst (v := 0) hx hb dX13_sheet_67 (by decide) ?_
                  refine lv_istore (lv' := [(4, .int 0), (0, .ref h0), (1, .int 3), (2, .int x2), (3, .int x3)]) hx hb dX13_sheet_68 hl (by decide) rfl (fun ls hl => ?_)
                  refine loopW (σ := (Int32) × (Nat → Int64) × (Nat → UInt64)) (fun x9 ls H locs => lv_has ls 5 [(4, .int x9.1), (0, .ref h0), (1, .int 3), (2, .int x2), (3, .int x3)] ∧ va_P D vwCl [(h0, .inr (10, fs0)), (a0, .inl (T 0, 4, .inl (upd f34 3 x2))), (a1, .inl (T 0, 4, .inl (upd f35 3 x3))), (a2, .inl (T 1, 120, .inr (.inl x9.2.1))), (a3, .inl (T 3, 120, .inr (.inr (.inr (.inl x9.2.2)))))] H ∧ va_D A [(h0, .inr (10, fs0)), (a0, .inl (T 0, 4, .inl (upd f34 3 x2))), (a1, .inl (T 0, 4, .inl (upd f35 3 x3))), (a2, .inl (T 1, 120, .inr (.inl x9.2.1))), (a3, .inl (T 3, 120, .inr (.inr (.inr (.inl x9.2.2)))))] ∧ va_S A s.heap H locs ∧ (0 ≤ x9.1.toInt)) (fun x9 => (30 - x9.1.toInt).toNat) (fun x9 ls H locs hI ih => ?_) (0, f36, f37) ls ⟨lv_sub hl [0, 1, 2, 3, 4] rfl, hP.sub [0, 1, 2, 3, 4] rfl, hD.sub [0, 1, 2, 3, 4] (by decide) rfl, hS, (by (try dsimp only); decide)⟩
                  obtain ⟨ii, f36, f37⟩ := x9
                  obtain ⟨hl, hP, hD, hS, hinv⟩ := hI
                  have hl : lv_has ls 5 [(4, .int ii), (0, .ref h0), (1, .int 3), (2, .int x2), (3, .int x3)] := hl
                  have hP : va_P D vwCl [(h0, .inr (10, fs0)), (a0, .inl (T 0, 4, .inl (upd f34 3 x2))), (a1, .inl (T 0, 4, .inl (upd f35 3 x3))), (a2, .inl (T 1, 120, .inr (.inl f36))), (a3, .inl (T 3, 120, .inr (.inr (.inr (.inl f37)))))] H := hP
                  have hD : va_D A [(h0, .inr (10, fs0)), (a0, .inl (T 0, 4, .inl (upd f34 3 x2))), (a1, .inl (T 0, 4, .inl (upd f35 3 x3))), (a2, .inl (T 1, 120, .inr (.inl f36))), (a3, .inl (T 3, 120, .inr (.inr (.inr (.inl f37)))))] := hD
                  have hinv : 0 ≤ ii.toInt := hinv
                  refine lv_iload hx hb dX13_sheet_70 (lv_at hl 0 rfl) ?_
                  refine lv_bipush (v := 30) hx hb dX13_sheet_72 (by decide) ?_
                  refine lv_icmp_ge (tgt := 109) hx hb dX13_sheet_74 (by decide) (fun c_147 => ?_) (fun c_147 => ?_)
                  · rw [fa_le] at c_147
                    try rw [ti_30] at c_147
                    refine lv_iconst (v := 1) hx hb dX13_sheet_109 (by decide) ?_
                    exact W.iret hx hb hr (fun t ht hW => ⟨⟨_, (), rfl, (by first | decide | (unfold sp_sheet; (repeat' split) <;> first | rfl | (exfalso; omega))), by rw [ht]; exact hP.sub [] rfl, hD.sub [] (by decide) rfl⟩, hS.F ht⟩) hS.2.2 dX13_sheet_110
                  · rw [fa_le] at c_147
                    try rw [ti_30] at c_147
                    refine lv_aload_n hx hb dX13_sheet_77 rfl (lv_at hl 1 rfl) ?_
                    refine va_get (D := D) (ci := 10) (v := .ref a2) (C := RX13) (T := TX13) (N := 45) hx hb hts in_X13_sheet_X13 hown hE.1 hP 0 rfl rfl 36 (by decide) (hts (.fieldLink RX13 110 "ClauseBookModel" "whole" "[J") (List.mem_of_getElem? (i := 5) rfl)) (fun _ h9 => h9) e0_36 dX13_sheet_78 ?_
                    refine lv_bipush (v := 30) hx hb dX13_sheet_81 (by decide) ?_
                    refine lv_iload_n hx hb dX13_sheet_83 rfl (lv_at hl 2 rfl) ?_
                    refine lv_imul hx hb dX13_sheet_84 ?_
                    refine lv_topi (fun z_148 ez_148 => ?_)
                    obtain rfl : z_148 = 90 := ez_148.trans (by decide)
                    refine lv_iload hx hb dX13_sheet_85 (lv_at hl 0 rfl) ?_
                    refine lv_iadd hx hb dX13_sheet_87 ?_
                    refine lv_lconst (v := 0) hx hb dX13_sheet_88 (by decide) ?_
                    refine va_last hx hb hE.1 hP hD hS 3 1 rfl rfl (by rw [vp_in_iff, fb_addI (by rw [ti_90]; omega) (by rw [ti_90]; omega), ti_90]; omega) dX13_sheet_89 (fun H locs hP hD hS => ?_)
                    have hP : va_P D vwCl [(h0, .inr (10, fs0)), (a0, .inl (T 0, 4, .inl (upd f34 3 x2))), (a1, .inl (T 0, 4, .inl (upd f35 3 x3))), (a2, .inl (T 1, 120, .inr (.inl (vp_updL f36 ((90 + ii).toNatClampNeg) 0)))), (a3, .inl (T 3, 120, .inr (.inr (.inr (.inl f37)))))] H := hP
                    have hD : va_D A [(h0, .inr (10, fs0)), (a0, .inl (T 0, 4, .inl (upd f34 3 x2))), (a1, .inl (T 0, 4, .inl (upd f35 3 x3))), (a2, .inl (T 1, 120, .inr (.inl (vp_updL f36 ((90 + ii).toNatClampNeg) 0)))), (a3, .inl (T 3, 120, .inr (.inr (.inr (.inl f37)))))] := hD
                    refine lv_aload_n hx hb dX13_sheet_90 rfl (lv_at hl 1 rfl) ?_
                    refine va_get (D := D) (ci := 10) (v := .ref a3) (C := RX13) (T := TX13) (N := 45) hx hb hts in_X13_sheet_X13 hown hE.1 hP 0 rfl rfl 37 (by decide) (hts (.fieldLink RX13 113 "ClauseBookModel" "host" "[D") (List.mem_of_getElem? (i := 6) rfl)) (fun _ h9 => h9) e0_37 dX13_sheet_91 ?_
                    refine lv_bipush (v := 30) hx hb dX13_sheet_94 (by decide) ?_
                    refine lv_iload_n hx hb dX13_sheet_96 rfl (lv_at hl 2 rfl) ?_
                    refine lv_imul hx hb dX13_sheet_97 ?_
                    refine lv_topi (fun z_149 ez_149 => ?_)
                    obtain rfl : z_149 = 90 := ez_149.trans (by decide)
                    refine lv_iload hx hb dX13_sheet_98 (lv_at hl 0 rfl) ?_
                    refine lv_iadd hx hb dX13_sheet_100 ?_
                    refine lv_dconst0 hx hb dX13_sheet_101 ?_
                    refine va_dast hx hb hE.1 hP hD hS 4 3 rfl rfl (by rw [vp_in_iff, fb_addI (by rw [ti_90]; omega) (by rw [ti_90]; omega), ti_90]; omega) dX13_sheet_102 (fun H locs hP hD hS => ?_)
                    have hP : va_P D vwCl [(h0, .inr (10, fs0)), (a0, .inl (T 0, 4, .inl (upd f34 3 x2))), (a1, .inl (T 0, 4, .inl (upd f35 3 x3))), (a2, .inl (T 1, 120, .inr (.inl (vp_updL f36 ((90 + ii).toNatClampNeg) 0)))), (a3, .inl (T 3, 120, .inr (.inr (.inr (.inl (vf_upd f37 ((90 + ii).toNatClampNeg) FP.dconst0))))))] H := hP
                    have hD : va_D A [(h0, .inr (10, fs0)), (a0, .inl (T 0, 4, .inl (upd f34 3 x2))), (a1, .inl (T 0, 4, .inl (upd f35 3 x3))), (a2, .inl (T 1, 120, .inr (.inl (vp_updL f36 ((90 + ii).toNatClampNeg) 0)))), (a3, .inl (T 3, 120, .inr (.inr (.inr (.inl (vf_upd f37 ((90 + ii).toNatClampNeg) FP.dconst0))))))] := hD
                    obtain ⟨z_150, ez_150⟩ : ∃ y : Int32, y = ii + 1 := ⟨_, rfl⟩
                    refine lv_iinc (v := z_150) (lv' := [(4, .int z_150), (0, .ref h0), (1, .int 3), (2, .int x2), (3, .int x3)]) hx hb dX13_sheet_103 hl (k := 0) rfl (by rw [ez_150]; rfl) (by decide) rfl (fun ls hl => ?_)
                    refine lv_goto (tgt := 70) hx hb dX13_sheet_106 (by decide) ?_
                    exact ih (z_150, (vp_updL f36 ((90 + ii).toNatClampNeg) 0), (vf_upd f37 ((90 + ii).toNatClampNeg) FP.dconst0)) ls _ _ ⟨lv_sub hl [0, 1, 2, 3, 4] rfl, hP.sub [0, 1, 2, 3, 4] rfl, hD.sub [0, 1, 2, 3, 4] (by decide) rfl, hS, (by subst_vars; (try dsimp only); rw [inc1 (n := 30) (by omega) (by decide)]; omega)⟩ (by subst_vars; (try dsimp only); rw [inc1 (n := 30) (by omega) (by decide)]; omega)
                · rw [fa_le] at c_146
                  try rw [ti_0] at c_146
                  refine lv_iconst (v := 0) hx hb dX13_sheet_61 (by decide) ?_
                  refine lv_goto (tgt := 66) hx hb dX13_sheet_62 (by decide) ?_
                  refine va_iast hx hb hE.1 hP hD hS 2 0 rfl rfl (by unfold vp_in; decide) dX13_sheet_66 (fun H locs hP hD hS => ?_)
                  have hP : va_P D vwCl [(h0, .inr (10, fs0)), (a0, .inl (T 0, 4, .inl (upd f34 3 x2))), (a1, .inl (T 0, 4, .inl (upd f35 3 0))), (a2, .inl (T 1, 120, .inr (.inl f36))), (a3, .inl (T 3, 120, .inr (.inr (.inr (.inl f37)))))] H := hP
                  have hD : va_D A [(h0, .inr (10, fs0)), (a0, .inl (T 0, 4, .inl (upd f34 3 x2))), (a1, .inl (T 0, 4, .inl (upd f35 3 0))), (a2, .inl (T 1, 120, .inr (.inl f36))), (a3, .inl (T 3, 120, .inr (.inr (.inr (.inl f37)))))] := hD
                  refine lv_iconst (v := 0) hx hb dX13_sheet_67 (by decide) ?_
                  refine lv_istore (lv' := [(4, .int 0), (0, .ref h0), (1, .int 3), (2, .int x2), (3, .int x3)]) hx hb dX13_sheet_68 hl (by decide) rfl (fun ls hl => ?_)
                  refine loopW (σ := (Int32) × (Nat → Int64) × (Nat → UInt64)) (fun x9 ls H locs => lv_has ls 5 [(4, .int x9.1), (0, .ref h0), (1, .int 3), (2, .int x2), (3, .int x3)] ∧ va_P D vwCl [(h0, .inr (10, fs0)), (a0, .inl (T 0, 4, .inl (upd f34 3 x2))), (a1, .inl (T 0, 4, .inl (upd f35 3 0))), (a2, .inl (T 1, 120, .inr (.inl x9.2.1))), (a3, .inl (T 3, 120, .inr (.inr (.inr (.inl x9.2.2)))))] H ∧ va_D A [(h0, .inr (10, fs0)), (a0, .inl (T 0, 4, .inl (upd f34 3 x2))), (a1, .inl (T 0, 4, .inl (upd f35 3 0))), (a2, .inl (T 1, 120, .inr (.inl x9.2.1))), (a3, .inl (T 3, 120, .inr (.inr (.inr (.inl x9.2.2)))))] ∧ va_S A s.heap H locs ∧ (0 ≤ x9.1.toInt)) (fun x9 => (30 - x9.1.toInt).toNat) (fun x9 ls H locs hI ih => ?_) (0, f36, f37) ls ⟨lv_sub hl [0, 1, 2, 3, 4] rfl, hP.sub [0, 1, 2, 3, 4] rfl, hD.sub [0, 1, 2, 3, 4] (by decide) rfl, hS, (by (try dsimp only); decide)⟩
                  obtain ⟨ii, f36, f37⟩ := x9
                  obtain ⟨hl, hP, hD, hS, hinv⟩ := hI
                  have hl : lv_has ls 5 [(4, .int ii), (0, .ref h0), (1, .int 3), (2, .int x2), (3, .int x3)] := hl
                  have hP : va_P D vwCl [(h0, .inr (10, fs0)), (a0, .inl (T 0, 4, .inl (upd f34 3 x2))), (a1, .inl (T 0, 4, .inl (upd f35 3 0))), (a2, .inl (T 1, 120, .inr (.inl f36))), (a3, .inl (T 3, 120, .inr (.inr (.inr (.inl f37)))))] H := hP
                  have hD : va_D A [(h0, .inr (10, fs0)), (a0, .inl (T 0, 4, .inl (upd f34 3 x2))), (a1, .inl (T 0, 4, .inl (upd f35 3 0))), (a2, .inl (T 1, 120, .inr (.inl f36))), (a3, .inl (T 3, 120, .inr (.inr (.inr (.inl f37)))))] := hD
                  have hinv : 0 ≤ ii.toInt := hinv
                  refine lv_iload hx hb dX13_sheet_70 (lv_at hl 0 rfl) ?_
                  refine lv_bipush (v := 30) hx hb dX13_sheet_72 (by decide) ?_
                  refine lv_icmp_ge (tgt := 109) hx hb dX13_sheet_74 (by decide) (fun c_151 => ?_) (fun c_151 => ?_)
                  · rw [fa_le] at c_151
                    try rw [ti_30] at c_151
                    refine lv_iconst (v := 1) hx hb dX13_sheet_109 (by decide) ?_
                    exact W.iret hx hb hr (fun t ht hW => ⟨⟨_, (), rfl, (by first | decide | (unfold sp_sheet; (repeat' split) <;> first | rfl | (exfalso; omega))), by rw [ht]; exact hP.sub [] rfl, hD.sub [] (by decide) rfl⟩, hS.F ht⟩) hS.2.2 dX13_sheet_110
                  · rw [fa_le] at c_151
                    try rw [ti_30] at c_151
                    refine lv_aload_n hx hb dX13_sheet_77 rfl (lv_at hl 1 rfl) ?_
                    refine va_get (D := D) (ci := 10) (v := .ref a2) (C := RX13) (T := TX13) (N := 45) hx hb hts in_X13_sheet_X13 hown hE.1 hP 0 rfl rfl 36 (by decide) (hts (.fieldLink RX13 110 "ClauseBookModel" "whole" "[J") (List.mem_of_getElem? (i := 5) rfl)) (fun _ h9 => h9) e0_36 dX13_sheet_78 ?_
                    refine lv_bipush (v := 30) hx hb dX13_sheet_81 (by decide) ?_
                    refine lv_iload_n hx hb dX13_sheet_83 rfl (lv_at hl 2 rfl) ?_
                    refine lv_imul hx hb dX13_sheet_84 ?_
                    refine lv_topi (fun z_152 ez_152 => ?_)
                    obtain rfl : z_152 = 90 := ez_152.trans (by decide)
                    refine lv_iload hx hb dX13_sheet_85 (lv_at hl 0 rfl) ?_
                    refine lv_iadd hx hb dX13_sheet_87 ?_
                    refine lv_lconst (v := 0) hx hb dX13_sheet_88 (by decide) ?_
                    refine va_last hx hb hE.1 hP hD hS 3 1 rfl rfl (by rw [vp_in_iff, fb_addI (by rw [ti_90]; omega) (by rw [ti_90]; omega), ti_90]; omega) dX13_sheet_89 (fun H locs hP hD hS => ?_)
                    have hP : va_P D vwCl [(h0, .inr (10, fs0)), (a0, .inl (T 0, 4, .inl (upd f34 3 x2))), (a1, .inl (T 0, 4, .inl (upd f35 3 0))), (a2, .inl (T 1, 120, .inr (.inl (vp_updL f36 ((90 + ii).toNatClampNeg) 0)))), (a3, .inl (T 3, 120, .inr (.inr (.inr (.inl f37)))))] H := hP
                    have hD : va_D A [(h0, .inr (10, fs0)), (a0, .inl (T 0, 4, .inl (upd f34 3 x2))), (a1, .inl (T 0, 4, .inl (upd f35 3 0))), (a2, .inl (T 1, 120, .inr (.inl (vp_updL f36 ((90 + ii).toNatClampNeg) 0)))), (a3, .inl (T 3, 120, .inr (.inr (.inr (.inl f37)))))] := hD
                    refine lv_aload_n hx hb dX13_sheet_90 rfl (lv_at hl 1 rfl) ?_
                    refine va_get (D := D) (ci := 10) (v := .ref a3) (C := RX13) (T := TX13) (N := 45) hx hb hts in_X13_sheet_X13 hown hE.1 hP 0 rfl rfl 37 (by decide) (hts (.fieldLink RX13 113 "ClauseBookModel" "host" "[D") (List.mem_of_getElem? (i := 6) rfl)) (fun _ h9 => h9) e0_37 dX13_sheet_91 ?_
                    refine lv_bipush (v := 30) hx hb dX13_sheet_94 (by decide) ?_
                    refine lv_iload_n hx hb dX13_sheet_96 rfl (lv_at hl 2 rfl) ?_
                    refine lv_imul hx hb dX13_sheet_97 ?_
                    refine lv_topi (fun z_153 ez_153 => ?_)
                    obtain rfl : z_153 = 90 := ez_153.trans (by decide)
                    refine lv_iload hx hb dX13_sheet_98 (lv_at hl 0 rfl) ?_
                    refine lv_iadd hx hb dX13_sheet_100 ?_
                    refine lv_dconst0 hx hb dX13_sheet_101 ?_
                    refine va_dast hx hb hE.1 hP hD hS 4 3 rfl rfl (by rw [vp_in_iff, fb_addI (by rw [ti_90]; omega) (by rw [ti_90]; omega), ti_90]; omega) dX13_sheet_102 (fun H locs hP hD hS => ?_)
                    have hP : va_P D vwCl [(h0, .inr (10, fs0)), (a0, .inl (T 0, 4, .inl (upd f34 3 x2))), (a1, .inl (T 0, 4, .inl (upd f35 3 0))), (a2, .inl (T 1, 120, .inr (.inl (vp_updL f36 ((90 + ii).toNatClampNeg) 0)))), (a3, .inl (T 3, 120, .inr (.inr (.inr (.inl (vf_upd f37 ((90 + ii).toNatClampNeg) FP.dconst0))))))] H := hP
                    have hD : va_D A [(h0, .inr (10, fs0)), (a0, .inl (T 0, 4, .inl (upd f34 3 x2))), (a1, .inl (T 0, 4, .inl (upd f35 3 0))), (a2, .inl (T 1, 120, .inr (.inl (vp_updL f36 ((90 + ii).toNatClampNeg) 0)))), (a3, .inl (T 3, 120, .inr (.inr (.inr (.inl (vf_upd f37 ((90 + ii).toNatClampNeg) FP.dconst0))))))] := hD
                    obtain ⟨z_154, ez_154⟩ : ∃ y : Int32, y = ii + 1 := ⟨_, rfl⟩
                    refine lv_iinc (v := z_154) (lv' := [(4, .int z_154), (0, .ref h0), (1, .int 3), (2, .int x2), (3, .int x3)]) hx hb dX13_sheet_103 hl (k := 0) rfl (by rw [ez_154]; rfl) (by decide) rfl (fun ls hl => ?_)
                    refine lv_goto (tgt := 70) hx hb dX13_sheet_106 (by decide) ?_
                    exact ih (z_154, (vp_updL f36 ((90 + ii).toNatClampNeg) 0), (vf_upd f37 ((90 + ii).toNatClampNeg) FP.dconst0)) ls _ _ ⟨lv_sub hl [0, 1, 2, 3, 4] rfl, hP.sub [0, 1, 2, 3, 4] rfl, hD.sub [0, 1, 2, 3, 4] (by decide) rfl, hS, (by subst_vars; (try dsimp only); rw [inc1 (n := 30) (by omega) (by decide)]; omega)⟩ (by subst_vars; (try dsimp only); rw [inc1 (n := 30) (by omega) (by decide)]; omega)
            · rw [fa_le] at c_118
              try rw [ti_0] at c_118
              refine lv_bipush (v := (-14)) hx hb dX13_sheet_42 (by decide) ?_
              exact W.iret hx hb hr (fun t ht hW => ⟨⟨_, (), rfl, (by first | decide | (unfold sp_sheet; (repeat' split) <;> first | rfl | (exfalso; omega))), by rw [ht]; exact hP.sub [] rfl, hD.sub [] (by decide) rfl⟩, hS.F ht⟩) hS.2.2 dX13_sheet_44
        · rw [fa_le] at c_80
          try rw [ti_30] at c_80
          refine lv_bipush (v := (-2)) hx hb dX13_sheet_31 (by decide) ?_
          exact W.iret hx hb hr (fun t ht hW => ⟨⟨_, (), rfl, (by first | decide | (unfold sp_sheet; (repeat' split) <;> first | rfl | (exfalso; omega))), by rw [ht]; exact hP.sub [] rfl, hD.sub [] (by decide) rfl⟩, hS.F ht⟩) hS.2.2 dX13_sheet_33
    · refine lv_if_eq (tgt := 31) hx hb dX13_sheet_18 (by decide) (fun _ => ?_) (fun c9 => absurd c9 (by decide))
      refine lv_bipush (v := (-2)) hx hb dX13_sheet_31 (by decide) ?_
      exact W.iret hx hb hr (fun t ht hW => ⟨⟨_, (), rfl, (by first | decide | (unfold sp_sheet; (repeat' split) <;> first | rfl | (exfalso; omega))), by rw [ht]; exact hP.sub [] rfl, hD.sub [] (by decide) rfl⟩, hS.F ht⟩) hS.2.2 dX13_sheet_33
  · refine lv_if_eq (tgt := 31) hx hb dX13_sheet_4 (by decide) (fun _ => ?_) (fun c9 => absurd c9 (by decide))
    refine lv_bipush (v := (-2)) hx hb dX13_sheet_31 (by decide) ?_
    exact W.iret hx hb hr (fun t ht hW => ⟨⟨_, (), rfl, (by first | decide | (unfold sp_sheet; (repeat' split) <;> first | rfl | (exfalso; omega))), by rw [ht]; exact hP.sub [] rfl, hD.sub [] (by decide) rfl⟩, hS.F ht⟩) hS.2.2 dX13_sheet_33
theorem dX13_passes_0 : decode cX13_passes 0 = .ok (.aload_n 0, 1) := by decide +kernel
theorem dX13_passes_1 : decode cX13_passes 1 = .ok (.getfield 423, 3) := by decide +kernel
theorem dX13_passes_20 : decode cX13_passes 20 = .ok (.istore_n 2, 1) := by decide +kernel
theorem dX13_passes_21 : decode cX13_passes 21 = .ok (.aload_n 0, 1) := by decide +kernel
theorem dX13_passes_22 : decode cX13_passes 22 = .ok (.getfield 126, 3) := by decide +kernel
theorem dX13_passes_25 : decode cX13_passes 25 = .ok (.aload_n 0, 1) := by decide +kernel
theorem dX13_passes_26 : decode cX13_passes 26 = .ok (.getfield 426, 3) := by decide +kernel
theorem dX13_passes_29 : decode cX13_passes 29 = .ok (.iload_n 2, 1) := by decide +kernel
theorem dX13_passes_30 : decode cX13_passes 30 = .ok (.iastore, 1) := by decide +kernel
theorem dX13_passes_31 : decode cX13_passes 31 = .ok (.aload_n 0, 1) := by decide +kernel
theorem dX13_passes_32 : decode cX13_passes 32 = .ok (.dup, 1) := by decide +kernel
theorem dX13_passes_33 : decode cX13_passes 33 = .ok (.getfield 426, 3) := by decide +kernel
theorem dX13_passes_36 : decode cX13_passes 36 = .ok (.iconst 1, 1) := by decide +kernel
theorem dX13_passes_37 : decode cX13_passes 37 = .ok (.iadd, 1) := by decide +kernel
theorem dX13_passes_38 : decode cX13_passes 38 = .ok (.putfield 426, 3) := by decide +kernel
theorem dX13_passes_4 : decode cX13_passes 4 = .ok (.ifCond .eq 7, 3) := by decide +kernel
theorem dX13_passes_41 : decode cX13_passes 41 = .ok (.iload_n 2, 1) := by decide +kernel
theorem dX13_passes_42 : decode cX13_passes 42 = .ok (.ireturn, 1) := by decide +kernel
theorem dX13_passes_7 : decode cX13_passes 7 = .ok (.iload_n 1, 1) := by decide +kernel
theorem dX13_passes_8 : decode cX13_passes 8 = .ok (.goto 12, 3) := by decide +kernel
set_option maxRecDepth 20000 in
theorem in_X13_passes_X13 : ∀ w ∈ wsX130, w ∈ wsX13_passes := by decide +kernel
set_option maxHeartbeats 4000000 in
set_option maxRecDepth 100000 in
theorem f_X13_passes (l : Launch) (D : va_G) (T : Nat → ClassId) (sz : Nat) (h0 : Nat) (fs0 : List Value) (w0 : Value) (w1 : Value) (w2 : Value) (w3 : Value) (w4 : Value) (w5 : Value) (w6 : Value) (w7 : Value) (w8 : Value) (w9 : Value) (w10 : Value) (w11 : Value) (w12 : Value) (w13 : Value) (a0 : Nat) (fk : Nat → Int32) (pn : Int32) (pn2 : Int32) (x1 : Int32) (hl0 : fs0.length = 45) (e0_0 : fs0[0]? = some w0) (e0_1 : fs0[1]? = some w1) (e0_2 : fs0[2]? = some w2) (e0_3 : fs0[3]? = some w3) (e0_4 : fs0[4]? = some w4) (e0_5 : fs0[5]? = some w5) (e0_6 : fs0[6]? = some w6) (e0_7 : fs0[7]? = some w7) (e0_8 : fs0[8]? = some w8) (e0_9 : fs0[9]? = some w9) (e0_10 : fs0[10]? = some w10) (e0_11 : fs0[11]? = some w11) (e0_12 : fs0[12]? = some w12) (e0_13 : fs0[13]? = some w13) (e0_42 : fs0[42]? = some (.ref a0)) (e0_43 : fs0[43]? = some (.int pn)) (e0_44 : fs0[44]? = some (.int 1)) (hpn : vp_in pn 143) (hpn2 : pn + 1 = pn2) : Met l yX13_passes wsX13_passes ({ frames := 0, cells := 0, slots := 0, locals := 0 }) (pW [.ref h0, .int x1] D T [(h0, .inr (10, fs0)), (a0, .inl (T 0, 143, .inl fk))] sz) (va_Qi (fun (r : Int32) (u : List Value × (Nat → Int32)) => r = x1 ∧ u.1.length = 45 ∧ u.1[0]? = some (w0) ∧ u.1[1]? = some (w1) ∧ u.1[2]? = some (w2) ∧ u.1[3]? = some (w3) ∧ u.1[4]? = some (w4) ∧ u.1[5]? = some (w5) ∧ u.1[6]? = some (w6) ∧ u.1[7]? = some (w7) ∧ u.1[8]? = some (w8) ∧ u.1[9]? = some (w9) ∧ u.1[10]? = some (w10) ∧ u.1[11]? = some (w11) ∧ u.1[12]? = some (w12) ∧ u.1[13]? = some (w13) ∧ u.1[42]? = some (.ref a0) ∧ u.1[43]? = some (.int pn2) ∧ u.1[44]? = some (.int 1)) (bW D (va_A [(h0, .inr (10, fs0)), (a0, .inl (T 0, 143, .inl fk))] sz) (fun (u : List Value × (Nat → Int32)) => [(h0, .inr (10, u.1)), (a0, .inl (T 0, 143, .inl u.2))])) (va_A [(h0, .inr (10, fs0)), (a0, .inl (T 0, 143, .inl fk))] sz)) 0 0 (va_A [(h0, .inr (10, fs0)), (a0, .inl (T 0, 143, .inl fk))] sz) := by
  refine Met.ofW (cc := cX13_passes) (maxL := 3) (ret := (some .int)) (by decide) rfl ?_
  intro p e s m args below meth c s₁ B hml hv
  obtain ⟨rfl, hsz, hP, hE, hD0⟩ := hv
  have hx := B.exec
  have hb := B.bytes
  have hr := B.returns
  have hts := atoms_spec (ws := wsX13_passes) B.pre
  have hown : s.vm.findClass RX13 = some m.cls := findClass_of_methodNamed B.named
  have hlocks := B.notSynchronized
  subst hsz
  have hD := hD0.self (sz := s.heap.size)
  generalize hAe : va_A [(h0, .inr (10, fs0)), (a0, .inl (T 0, 143, .inl fk))] s.heap.size = A at hD ⊢
  have hA : ∀ q : Nat, s.heap.size ≤ q → A q := fun q h => by rw [← hAe]; exact Or.inr h
  have hS : va_S A s.heap s.heap [] := va_S.rf
  have hP : va_P D vwCl [(h0, .inr (10, fs0)), (a0, .inl (T 0, 143, .inl fk))] s.heap := hP
  have hl := lv_entry ([.ref h0, .int x1]) (n := 3) (Nat.le_of_ble_eq_true rfl)
  rw [lg_entry_eq]
  generalize (lg_sl ([.ref h0, .int x1]) ++ List.replicate (3 - (lg_sl ([.ref h0, .int x1])).length) Slot.unset).toArray = ls at hl ⊢
  have hl : lv_has ls 3 [(0, .ref h0), (1, .int x1)] := hl
  clear hD0
  refine lv_aload_n hx hb dX13_passes_0 rfl (lv_at hl 0 rfl) ?_
  refine va_get (D := D) (ci := 10) (v := .int 1) (C := RX13) (T := TX13) (N := 45) hx hb hts in_X13_passes_X13 hown hE.1 hP 0 rfl rfl 44 (by decide) (hts (.fieldLink RX13 423 "ClauseBookModel" "isKeeping" "Z") (List.mem_of_getElem? (i := 1) rfl)) (fun _ h9 => h9) e0_44 dX13_passes_1 ?_
  refine lv_if_eq (tgt := 11) hx hb dX13_passes_4 (by decide) (fun c9 => absurd c9 (by decide)) (fun _ => ?_)
  refine lv_iload_n hx hb dX13_passes_7 rfl (lv_at hl 1 rfl) ?_
  refine lv_goto (tgt := 20) hx hb dX13_passes_8 (by decide) ?_
  refine lv_istore_n (lv' := [(2, .int x1), (0, .ref h0), (1, .int x1)]) hx hb dX13_passes_20 rfl hl (by decide) rfl (fun ls hl => ?_)
  refine lv_aload_n hx hb dX13_passes_21 rfl (lv_at hl 1 rfl) ?_
  refine va_get (D := D) (ci := 10) (v := .ref a0) (C := RX13) (T := TX13) (N := 45) hx hb hts in_X13_passes_X13 hown hE.1 hP 0 rfl rfl 42 (by decide) (hts (.fieldLink RX13 126 "ClauseBookModel" "kept" "[I") (List.mem_of_getElem? (i := 2) rfl)) (fun _ h9 => h9) e0_42 dX13_passes_22 ?_
  refine lv_aload_n hx hb dX13_passes_25 rfl (lv_at hl 1 rfl) ?_
  refine va_get (D := D) (ci := 10) (v := .int pn) (C := RX13) (T := TX13) (N := 45) hx hb hts in_X13_passes_X13 hown hE.1 hP 0 rfl rfl 43 (by decide) (hts (.fieldLink RX13 426 "ClauseBookModel" "passed" "I") (List.mem_of_getElem? (i := 3) rfl)) (fun _ h9 => h9) e0_43 dX13_passes_26 ?_
  refine lv_iload_n hx hb dX13_passes_29 rfl (lv_at hl 0 rfl) ?_
  refine va_iast hx hb hE.1 hP hD hS 1 0 rfl rfl (by assumption) dX13_passes_30 (fun H locs hP hD hS => ?_)
  have hP : va_P D vwCl [(h0, .inr (10, fs0)), (a0, .inl (T 0, 143, .inl (upd fk (pn.toNatClampNeg) x1)))] H := hP
  have hD : va_D A [(h0, .inr (10, fs0)), (a0, .inl (T 0, 143, .inl (upd fk (pn.toNatClampNeg) x1)))] := hD
  refine lv_aload_n hx hb dX13_passes_31 rfl (lv_at hl 1 rfl) ?_
  refine lv_dup hx hb dX13_passes_32 rfl ?_
  refine va_get (D := D) (ci := 10) (v := .int pn) (C := RX13) (T := TX13) (N := 45) hx hb hts in_X13_passes_X13 hown hE.1 hP 0 rfl rfl 43 (by decide) (hts (.fieldLink RX13 426 "ClauseBookModel" "passed" "I") (List.mem_of_getElem? (i := 3) rfl)) (fun _ h9 => h9) e0_43 dX13_passes_33 ?_
  refine lv_iconst (v := 1) hx hb dX13_passes_36 (by decide) ?_
  refine lv_iadd hx hb dX13_passes_37 ?_
  refine lv_topi (fun z_1 ez_1 => ?_)
  obtain rfl : z_1 = pn2 := ez_1.trans hpn2
  refine va_put (D := D) (ci := 10) (v := .int z_1) (ty := .int) (C := RX13) (T := TX13) (N := 45) hx hb hts in_X13_passes_X13 tyX13 tyX13_ok nmX13 hown hE.1 hP hD hS 0 rfl rfl 43 (by decide) (hts (.fieldLink RX13 426 "ClauseBookModel" "passed" "I") (List.mem_of_getElem? (i := 3) rfl)) (fun _ h9 => h9) rfl (by decide +kernel) rfl rfl (by rw [hl0]; decide) dX13_passes_38 (fun H locs hP hD hS => ?_)
  obtain ⟨g_2, eg_2⟩ : ∃ z : List Value, z = fs0.set 43 (.int z_1) := ⟨_, rfl⟩
  have hP : va_P D vwCl [(h0, .inr (10, g_2)), (a0, .inl (T 0, 143, .inl (upd fk (pn.toNatClampNeg) x1)))] H := by rw [eg_2]; exact hP
  have hD : va_D A [(h0, .inr (10, g_2)), (a0, .inl (T 0, 143, .inl (upd fk (pn.toNatClampNeg) x1)))] := by rw [eg_2]; exact hD
  have lg_2 : g_2.length = 45 := by rw [eg_2, List.length_set]; exact hl0
  have kg_2_43 : g_2[43]? = some (.int z_1) := by rw [eg_2]; exact List.getElem?_set_self (by rw [hl0]; decide)
  have kg_2_0 : g_2[0]? = some (w0) := by rw [eg_2, List.getElem?_set_ne (by decide)]; exact e0_0
  have kg_2_1 : g_2[1]? = some (w1) := by rw [eg_2, List.getElem?_set_ne (by decide)]; exact e0_1
  have kg_2_2 : g_2[2]? = some (w2) := by rw [eg_2, List.getElem?_set_ne (by decide)]; exact e0_2
  have kg_2_3 : g_2[3]? = some (w3) := by rw [eg_2, List.getElem?_set_ne (by decide)]; exact e0_3
  have kg_2_4 : g_2[4]? = some (w4) := by rw [eg_2, List.getElem?_set_ne (by decide)]; exact e0_4
  have kg_2_5 : g_2[5]? = some (w5) := by rw [eg_2, List.getElem?_set_ne (by decide)]; exact e0_5
  have kg_2_6 : g_2[6]? = some (w6) := by rw [eg_2, List.getElem?_set_ne (by decide)]; exact e0_6
  have kg_2_7 : g_2[7]? = some (w7) := by rw [eg_2, List.getElem?_set_ne (by decide)]; exact e0_7
  have kg_2_8 : g_2[8]? = some (w8) := by rw [eg_2, List.getElem?_set_ne (by decide)]; exact e0_8
  have kg_2_9 : g_2[9]? = some (w9) := by rw [eg_2, List.getElem?_set_ne (by decide)]; exact e0_9
  have kg_2_10 : g_2[10]? = some (w10) := by rw [eg_2, List.getElem?_set_ne (by decide)]; exact e0_10
  have kg_2_11 : g_2[11]? = some (w11) := by rw [eg_2, List.getElem?_set_ne (by decide)]; exact e0_11
  have kg_2_12 : g_2[12]? = some (w12) := by rw [eg_2, List.getElem?_set_ne (by decide)]; exact e0_12
  have kg_2_13 : g_2[13]? = some (w13) := by rw [eg_2, List.getElem?_set_ne (by decide)]; exact e0_13
  have kg_2_42 : g_2[42]? = some (.ref a0) := by rw [eg_2, List.getElem?_set_ne (by decide)]; exact e0_42
  have kg_2_44 : g_2[44]? = some (.int 1) := by rw [eg_2, List.getElem?_set_ne (by decide)]; exact e0_44
  refine lv_iload_n hx hb dX13_passes_41 rfl (lv_at hl 0 rfl) ?_
  exact W.iret hx hb hr (fun t ht hW => ⟨⟨_, (g_2, (upd fk (pn.toNatClampNeg) x1)), rfl, ⟨rfl, lg_2, kg_2_0, kg_2_1, kg_2_2, kg_2_3, kg_2_4, kg_2_5, kg_2_6, kg_2_7, kg_2_8, kg_2_9, kg_2_10, kg_2_11, kg_2_12, kg_2_13, kg_2_42, kg_2_43, kg_2_44⟩, by rw [ht]; exact hP.sub [0, 1] rfl, hD.sub [0, 1] (by decide) rfl⟩, hS.F ht⟩) hS.2.2 dX13_passes_42
