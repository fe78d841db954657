theorem dX4_fractionFault_0 : decode cX4_fractionFault 0 = .ok (.aload_n 0, 1) := by decide +kernel
theorem dX4_fractionFault_1 : decode cX4_fractionFault 1 = .ok (.getfield 9, 3) := by decide +kernel
theorem dX4_fractionFault_10 : decode cX4_fractionFault 10 = .ok (.aload_n 0, 1) := by decide +kernel
theorem dX4_fractionFault_11 : decode cX4_fractionFault 11 = .ok (.getfield 9, 3) := by decide +kernel
theorem dX4_fractionFault_14 : decode cX4_fractionFault 14 = .ok (.iconst 2, 1) := by decide +kernel
theorem dX4_fractionFault_15 : decode cX4_fractionFault 15 = .ok (.if_icmp .ne 7, 3) := by decide +kernel
theorem dX4_fractionFault_18 : decode cX4_fractionFault 18 = .ok (.iconst 0, 1) := by decide +kernel
theorem dX4_fractionFault_19 : decode cX4_fractionFault 19 = .ok (.goto 5, 3) := by decide +kernel
theorem dX4_fractionFault_22 : decode cX4_fractionFault 22 = .ok (.bipush (-13), 2) := by decide +kernel
theorem dX4_fractionFault_24 : decode cX4_fractionFault 24 = .ok (.ireturn, 1) := by decide +kernel
theorem dX4_fractionFault_4 : decode cX4_fractionFault 4 = .ok (.ifCond .ne 6, 3) := by decide +kernel
theorem dX4_fractionFault_7 : decode cX4_fractionFault 7 = .ok (.bipush (-11), 2) := by decide +kernel
theorem dX4_fractionFault_9 : decode cX4_fractionFault 9 = .ok (.ireturn, 1) := by decide +kernel
set_option maxRecDepth 20000 in
theorem in_X4_fractionFault_X4 : ∀ w ∈ wsX40, w ∈ wsX4_fractionFault := sub_r [2, 3, 4, 5] rfl
set_option maxHeartbeats 4000000 in
set_option maxRecDepth 100000 in
theorem c_X4_fractionFault (l : Launch) (D : va_G) (T : Nat → ClassId) (h0 : Nat) (fs0 : List Value) (n : Int32) (e0_0 : fs0[0]? = some (.int n)) : Met l yX4_fractionFault wsX4_fractionFault ({ frames := 0, cells := 0, slots := 0, locals := 0 }) (pR [.ref h0] D T [(h0, .inr (3, fs0))]) (vp_Si (fun r => r = if n.toInt = 0 then -11 else if n.toInt = 2 then 0 else -13)) 0 0 (fun _ => False) := by
  refine Met.ofW (cc := cX4_fractionFault) (maxL := 1) (ret := (some .int)) (by decide +kernel) rfl ?_
  intro p e s m args below meth c s₁ B hml hv
  obtain ⟨rfl, hP, hE⟩ := hv
  have hx := B.exec
  have hb := B.bytes
  have hr := B.returns
  have hts := atoms_spec (ws := wsX4_fractionFault) B.pre
  have hown : s.vm.findClass RX4 = some m.cls := findClass_of_methodNamed B.named
  have hlocks := B.notSynchronized
  have hP : va_P D vwCl [(h0, .inr (3, fs0))] s.heap := hP
  have hl := lv_entry ([.ref h0]) (n := 1) (Nat.le_of_ble_eq_true rfl)
  rw [lg_entry_eq]
  generalize (lg_sl ([.ref h0]) ++ List.replicate (1 - (lg_sl ([.ref h0])).length) Slot.unset).toArray = ls at hl ⊢
  have hl : lv_has ls 1 [(0, .ref h0)] := hl
  refine lv_aload_n hx hb dX4_fractionFault_0 rfl (lv_at hl 0 rfl) ?_
  refine va_get (D := D) (ci := 3) (v := .int n) (C := RX4) (T := TX4) (N := 4) hx hb hts in_X4_fractionFault_X4 hown hE.1 hP 0 rfl rfl 0 (by decide +kernel) (hts (.fieldLink RX4 9 "ClauseBook$Hand" "sort" "I") (List.mem_of_getElem? (i := 1) rfl)) (fun _ h9 => h9) e0_0 dX4_fractionFault_1 ?_
  refine lv_if_ne (tgt := 10) hx hb dX4_fractionFault_4 (by decide +kernel) (fun c_1 => ?_) (fun c_1 => ?_)
  · rw [fa_eq] at c_1
    try rw [ti_0] at c_1
    refine lv_aload_n hx hb dX4_fractionFault_10 rfl (lv_at hl 0 rfl) ?_
    refine va_get (D := D) (ci := 3) (v := .int n) (C := RX4) (T := TX4) (N := 4) hx hb hts in_X4_fractionFault_X4 hown hE.1 hP 0 rfl rfl 0 (by decide +kernel) (hts (.fieldLink RX4 9 "ClauseBook$Hand" "sort" "I") (List.mem_of_getElem? (i := 1) rfl)) (fun _ h9 => h9) e0_0 dX4_fractionFault_11 ?_
    refine lv_iconst (v := 2) hx hb dX4_fractionFault_14 (by decide +kernel) ?_
    refine lv_icmp_ne (tgt := 22) hx hb dX4_fractionFault_15 (by decide +kernel) (fun c_2 => ?_) (fun c_2 => ?_)
    · rw [fa_eq] at c_2
      try rw [ti_2] at c_2
      refine lv_bipush (v := (-13)) hx hb dX4_fractionFault_22 (by decide +kernel) ?_
      exact W.iret hx hb hr (fun t ht hW => ⟨_, rfl, (by rw [if_neg (by omega), if_neg (by omega)]), ht⟩) (fun _ h => by cases h) dX4_fractionFault_24
    · rw [fa_eq] at c_2
      try rw [ti_2] at c_2
      refine lv_iconst (v := 0) hx hb dX4_fractionFault_18 (by decide +kernel) ?_
      refine lv_goto (tgt := 24) hx hb dX4_fractionFault_19 (by decide +kernel) ?_
      exact W.iret hx hb hr (fun t ht hW => ⟨_, rfl, (by rw [if_neg (by omega), if_pos (by omega)]), ht⟩) (fun _ h => by cases h) dX4_fractionFault_24
  · rw [fa_eq] at c_1
    try rw [ti_0] at c_1
    refine lv_bipush (v := (-11)) hx hb dX4_fractionFault_7 (by decide +kernel) ?_
    exact W.iret hx hb hr (fun t ht hW => ⟨_, rfl, (by exact (if_pos (by omega)).symm), ht⟩) (fun _ h => by cases h) dX4_fractionFault_9
theorem dX12_asFraction_0 : decode cX12_asFraction 0 = .ok (.iload_n 1, 1) := by decide +kernel
theorem dX12_asFraction_1 : decode cX12_asFraction 1 = .ok (.invokestatic 352, 3) := by decide +kernel
theorem dX12_asFraction_10 : decode cX12_asFraction 10 = .ok (.invokestatic 77, 3) := by decide +kernel
theorem dX12_asFraction_13 : decode cX12_asFraction 13 = .ok (.ifCond .ne 7, 3) := by decide +kernel
theorem dX12_asFraction_16 : decode cX12_asFraction 16 = .ok (.ldc2_w 183, 3) := by decide +kernel
theorem dX12_asFraction_19 : decode cX12_asFraction 19 = .ok (.lreturn, 1) := by decide +kernel
theorem dX12_asFraction_20 : decode cX12_asFraction 20 = .ok (.aload_n 0, 1) := by decide +kernel
theorem dX12_asFraction_21 : decode cX12_asFraction 21 = .ok (.getfield 71, 3) := by decide +kernel
theorem dX12_asFraction_24 : decode cX12_asFraction 24 = .ok (.iload_n 1, 1) := by decide +kernel
theorem dX12_asFraction_25 : decode cX12_asFraction 25 = .ok (.aaload, 1) := by decide +kernel
theorem dX12_asFraction_26 : decode cX12_asFraction 26 = .ok (.invokevirtual 373, 3) := by decide +kernel
theorem dX12_asFraction_29 : decode cX12_asFraction 29 = .ok (.istore_n 3, 1) := by decide +kernel
theorem dX12_asFraction_30 : decode cX12_asFraction 30 = .ok (.iload_n 3, 1) := by decide +kernel
theorem dX12_asFraction_31 : decode cX12_asFraction 31 = .ok (.ifCond .eq 10, 3) := by decide +kernel
theorem dX12_asFraction_34 : decode cX12_asFraction 34 = .ok (.ldc2_w 324, 3) := by decide +kernel
theorem dX12_asFraction_37 : decode cX12_asFraction 37 = .ok (.iload_n 3, 1) := by decide +kernel
theorem dX12_asFraction_38 : decode cX12_asFraction 38 = .ok (.i2l, 1) := by decide +kernel
theorem dX12_asFraction_39 : decode cX12_asFraction 39 = .ok (.ladd, 1) := by decide +kernel
theorem dX12_asFraction_4 : decode cX12_asFraction 4 = .ok (.ifCond .eq 12, 3) := by decide +kernel
theorem dX12_asFraction_40 : decode cX12_asFraction 40 = .ok (.lreturn, 1) := by decide +kernel
theorem dX12_asFraction_41 : decode cX12_asFraction 41 = .ok (.iload_n 2, 1) := by decide +kernel
theorem dX12_asFraction_42 : decode cX12_asFraction 42 = .ok (.ifCond .ne 15, 3) := by decide +kernel
theorem dX12_asFraction_45 : decode cX12_asFraction 45 = .ok (.aload_n 0, 1) := by decide +kernel
theorem dX12_asFraction_46 : decode cX12_asFraction 46 = .ok (.getfield 71, 3) := by decide +kernel
theorem dX12_asFraction_49 : decode cX12_asFraction 49 = .ok (.iload_n 1, 1) := by decide +kernel
theorem dX12_asFraction_50 : decode cX12_asFraction 50 = .ok (.aaload, 1) := by decide +kernel
theorem dX12_asFraction_51 : decode cX12_asFraction 51 = .ok (.getfield 365, 3) := by decide +kernel
theorem dX12_asFraction_54 : decode cX12_asFraction 54 = .ok (.goto 12, 3) := by decide +kernel
theorem dX12_asFraction_57 : decode cX12_asFraction 57 = .ok (.aload_n 0, 1) := by decide +kernel
theorem dX12_asFraction_58 : decode cX12_asFraction 58 = .ok (.getfield 71, 3) := by decide +kernel
theorem dX12_asFraction_61 : decode cX12_asFraction 61 = .ok (.iload_n 1, 1) := by decide +kernel
theorem dX12_asFraction_62 : decode cX12_asFraction 62 = .ok (.aaload, 1) := by decide +kernel
theorem dX12_asFraction_63 : decode cX12_asFraction 63 = .ok (.getfield 368, 3) := by decide +kernel
theorem dX12_asFraction_66 : decode cX12_asFraction 66 = .ok (.lreturn, 1) := by decide +kernel
theorem dX12_asFraction_7 : decode cX12_asFraction 7 = .ok (.iload_n 2, 1) := by decide +kernel
theorem dX12_asFraction_8 : decode cX12_asFraction 8 = .ok (.iconst 0, 1) := by decide +kernel
theorem dX12_asFraction_9 : decode cX12_asFraction 9 = .ok (.iconst 1, 1) := by decide +kernel
set_option maxRecDepth 20000 in
theorem ggX12_asFraction_X12_isHand : GoodIn wsX12_asFraction wsX12_isHand := goodIn_r _ [9, 10, 11, 8, 12] rfl (by decide +kernel)
set_option maxRecDepth 20000 in
theorem ggX12_asFraction_X12_within : GoodIn wsX12_asFraction wsX12_within := goodIn_r _ [12] rfl (by decide +kernel)
set_option maxRecDepth 20000 in
theorem ggX12_asFraction_X4_fractionFault : GoodIn wsX12_asFraction wsX4_fractionFault := goodIn_r _ [17, 18, 30, 31, 32, 33] rfl (by decide +kernel)
set_option maxRecDepth 20000 in
theorem gX12_asFraction_X12_isHand : GoodIn wsX12_asFraction (va_wsS RX12 352 yX12_isHand wsX12_isHand) := goodIn_app (goodIn_of _ (by decide +kernel)) ggX12_asFraction_X12_isHand
set_option maxRecDepth 20000 in
theorem gX12_asFraction_X12_within : GoodIn wsX12_asFraction (va_wsS RX12 77 yX12_within wsX12_within) := goodIn_app (goodIn_of _ (by decide +kernel)) ggX12_asFraction_X12_within
set_option maxRecDepth 20000 in
theorem gX12_asFraction_X4_fractionFault : GoodIn wsX12_asFraction (wsV RX12 373 RX4 yX4_fractionFault wsX4_fractionFault) := goodIn_app (goodIn_r _ [13, 14, 15, 16] rfl (by decide +kernel)) ggX12_asFraction_X4_fractionFault
theorem hs_X12_isHand : yX12_isHand.cls ≠ "java/lang/invoke/MethodHandle" ∧ yX12_isHand.cls ≠ "java/lang/invoke/VarHandle" ∧ (parseMethodDescriptor yX12_isHand.desc).map (fun d => d.parameters.length) = some 1 := by decide +kernel
theorem hv_X4_fractionFault : yX4_fractionFault.cls = RX4 ∧ yX4_fractionFault.cls ≠ "java/lang/invoke/MethodHandle" ∧ yX4_fractionFault.cls ≠ "java/lang/invoke/VarHandle" ∧ (parseMethodDescriptor yX4_fractionFault.desc).map (fun d => d.parameters.length) = some 0 := by decide +kernel
set_option maxRecDepth 20000 in
theorem in_X12_asFraction_X12 : ∀ w ∈ wsX120, w ∈ wsX12_asFraction := sub_r [19, 20, 21, 22, 23, 24, 25, 26, 27, 28, 29] rfl
set_option maxRecDepth 20000 in
theorem in_X12_asFraction_X4 : ∀ w ∈ wsX40, w ∈ wsX12_asFraction := sub_r [30, 31, 32, 33] rfl
set_option maxHeartbeats 4000000 in
set_option maxRecDepth 100000 in
theorem c_X12_asFraction (l : Launch) (D : va_G) (T : Nat → ClassId) (h0 : Nat) (fs0 : List Value) (h1 : Nat) (f1 : Nat → Option Nat) (h2 : Nat) (fs2 : List Value) (h3 : Nat) (fs3 : List Value) (h4 : Nat) (fs4 : List Value) (h5 : Nat) (fs5 : List Value) (x1 : Int32) (x2 : Int32) (n0 : Int32) (p0 : Int64) (q0 : Int64) (n1 : Int32) (p1 : Int64) (q1 : Int64) (n2 : Int32) (p2 : Int64) (q2 : Int64) (n3 : Int32) (p3 : Int64) (q3 : Int64) (e0_10 : fs0[10]? = some (.ref h1)) (e1_0 : f1 0 = some h2) (e1_1 : f1 1 = some h3) (e1_2 : f1 2 = some h4) (e1_3 : f1 3 = some h5) (e2_0 : fs2[0]? = some (.int n0)) (e2_2 : fs2[2]? = some (.long p0)) (e2_3 : fs2[3]? = some (.long q0)) (e3_0 : fs3[0]? = some (.int n1)) (e3_2 : fs3[2]? = some (.long p1)) (e3_3 : fs3[3]? = some (.long q1)) (e4_0 : fs4[0]? = some (.int n2)) (e4_2 : fs4[2]? = some (.long p2)) (e4_3 : fs4[3]? = some (.long q2)) (e5_0 : fs5[0]? = some (.int n3)) (e5_2 : fs5[2]? = some (.long p3)) (e5_3 : fs5[3]? = some (.long q3)) : Met l yX12_asFraction wsX12_asFraction ({ frames := 2, cells := 0, slots := 0, locals := 42 }) (pR [.ref h0, .int x1, .int x2] D T [(h0, .inr (9, fs0)), (h1, .inl (T 7, 4, .inr (.inr (.inr (.inr f1))))), (h2, .inr (3, fs2)), (h3, .inr (3, fs3)), (h4, .inr (3, fs4)), (h5, .inr (3, fs5))]) (vp_Sl (fun r => asFr x1 x2 ([n0, n1, n2, n3].getD x1.toNatClampNeg 0) ([p0, p1, p2, p3].getD x1.toNatClampNeg 0) ([q0, q1, q2, q3].getD x1.toNatClampNeg 0) r)) 0 0 (fun _ => False) := by
  refine Met.ofW (cc := cX12_asFraction) (maxL := 4) (ret := (some .long)) (by decide +kernel) rfl ?_
  intro p e s m args below meth c s₁ B hml hv
  obtain ⟨rfl, hP, hE⟩ := hv
  have hx := B.exec
  have hb := B.bytes
  have hr := B.returns
  have hts := atoms_spec (ws := wsX12_asFraction) B.pre
  have hown : s.vm.findClass RX12 = some m.cls := findClass_of_methodNamed B.named
  have hlocks := B.notSynchronized
  have hP : va_P D vwCl [(h0, .inr (9, fs0)), (h1, .inl (T 7, 4, .inr (.inr (.inr (.inr f1))))), (h2, .inr (3, fs2)), (h3, .inr (3, fs3)), (h4, .inr (3, fs4)), (h5, .inr (3, fs5))] s.heap := hP
  have hl := lv_entry ([.ref h0, .int x1, .int x2]) (n := 4) (Nat.le_of_ble_eq_true rfl)
  rw [lg_entry_eq]
  generalize (lg_sl ([.ref h0, .int x1, .int x2]) ++ List.replicate (4 - (lg_sl ([.ref h0, .int x1, .int x2])).length) Slot.unset).toArray = ls at hl ⊢
  have hl : lv_has ls 4 [(0, .ref h0), (1, .int x1), (2, .int x2)] := hl
  refine lv_iload_n hx hb dX12_asFraction_0 rfl (lv_at hl 1 rfl) ?_
  refine vp_callSi (W.runS (As := [.int x1]) (rest := []) ⟨hx, hb, hml, hown, hts⟩ (c_X12_isHand l D T x1) (va_cwS 1 hts gX12_asFraction_X12_isHand rfl rfl rfl hs_X12_isHand ⟨Nat.le_of_ble_eq_true rfl, Nat.le_of_ble_eq_true rfl⟩) (pR_S hP hE [] rfl) rfl rfl hl.1 rfl (lv_room (Nat.le_of_ble_eq_true rfl)) dX12_asFraction_1 ⟨Nat.le_of_ble_eq_true rfl, Nat.le_of_ble_eq_true rfl⟩) (fun r_1 hr_1 => ?_)
  rcases bool_post hr_1 with ⟨c_2, rfl⟩ | ⟨c_2, rfl⟩
  · refine lv_if_eq (tgt := 16) hx hb dX12_asFraction_4 (by decide +kernel) (fun c9 => absurd c9 (by decide +kernel)) (fun _ => ?_)
    refine lv_iload_n hx hb dX12_asFraction_7 rfl (lv_at hl 2 rfl) ?_
    refine lv_iconst (v := 0) hx hb dX12_asFraction_8 (by decide +kernel) ?_
    refine lv_iconst (v := 1) hx hb dX12_asFraction_9 (by decide +kernel) ?_
    refine vp_callSi (W.runS (As := [.int x2, .int 0, .int 1]) (rest := []) ⟨hx, hb, hml, hown, hts⟩ (c_X12_within l D T x2 0 1 0 1 (by decide +kernel) (by decide +kernel)) (va_cwS 3 hts gX12_asFraction_X12_within rfl rfl rfl hs_X12_within ⟨Nat.le_of_ble_eq_true rfl, Nat.le_of_ble_eq_true rfl⟩) (pR_S hP hE [] rfl) rfl rfl hl.1 rfl (lv_room (Nat.le_of_ble_eq_true rfl)) dX12_asFraction_10 ⟨Nat.le_of_ble_eq_true rfl, Nat.le_of_ble_eq_true rfl⟩) (fun r_3 hr_3 => ?_)
    rcases bool_post hr_3 with ⟨c_4, rfl⟩ | ⟨c_4, rfl⟩
    · refine lv_if_ne (tgt := 20) hx hb dX12_asFraction_13 (by decide +kernel) (fun _ => ?_) (fun c9 => absurd c9 (by decide +kernel))
      refine lv_aload_n hx hb dX12_asFraction_20 rfl (lv_at hl 0 rfl) ?_
      refine va_get (D := D) (ci := 9) (v := .ref h1) (C := RX12) (T := TX12) (N := 11) hx hb hts in_X12_asFraction_X12 hown hE.1 hP 0 rfl rfl 10 (by decide +kernel) (hts (.fieldLink RX12 71 "ClauseBook" "hands" "[LClauseBook$Hand;") (List.mem_of_getElem? (i := 2) rfl)) (fun _ h9 => h9) e0_10 dX12_asFraction_21 ?_
      refine lv_iload_n hx hb dX12_asFraction_24 rfl (lv_at hl 1 rfl) ?_
      rcases in4 (x := x1) (by omega) with rfl | rfl | rfl | rfl
      · refine va_aldq hx hb hE.1 hP 1 7 rfl rfl (by unfold vp_in; decide) dX12_asFraction_25 ?_
        refine W.eq (g2 := F0 m 26 ls [.ref h2]) (by rw [show (0 : Int32).toNatClampNeg = 0 from rfl, e1_0]; rfl) ?_
        refine vp_callSi (W.runV (As := []) (rest := []) ⟨hx, hb, hml, hown, hts⟩ (c_X4_fractionFault l D T h2 fs2 n0 e2_0) (cwV 0 hts gX12_asFraction_X4_fractionFault rfl rfl rfl hv_X4_fractionFault ⟨Nat.le_of_ble_eq_true rfl, Nat.le_of_ble_eq_true rfl⟩) (pR_V (q := (RX4, TX4, 4)) (ci := 3) (q0 := 2) hP hE rfl rfl [2] rfl) rfl rfl hl.1 rfl (lv_room (Nat.le_of_ble_eq_true rfl)) dX12_asFraction_26 ⟨Nat.le_of_ble_eq_true rfl, Nat.le_of_ble_eq_true rfl⟩) (fun r_5 hr_5 => ?_)
        rcases ff_post hr_5 with ⟨c_6, rfl⟩ | ⟨c_6, rfl⟩ | ⟨c_6, rfl⟩
        · refine lv_istore_n (lv' := [(3, .int (-11)), (0, .ref h0), (1, .int 0), (2, .int x2)]) hx hb dX12_asFraction_29 rfl hl (by decide +kernel) rfl (fun ls hl => ?_)
          refine lv_iload_n hx hb dX12_asFraction_30 rfl (lv_at hl 0 rfl) ?_
          refine lv_if_eq (tgt := 41) hx hb dX12_asFraction_31 (by decide +kernel) (fun c9 => absurd c9 (by decide +kernel)) (fun _ => ?_)
          refine lv_ldc2 (v := (-4611686018427387904)) hx hb hown (hts (.constantLong RX12 324 (-4611686018427387904)) (List.mem_of_getElem? (i := 3) rfl)) dX12_asFraction_34 ?_
          refine lv_iload_n hx hb dX12_asFraction_37 rfl (lv_at hl 0 rfl) ?_
          refine lv_i2l (v := (-11)) hx hb dX12_asFraction_38 (by decide +kernel) ?_
          refine lv_ladd hx hb dX12_asFraction_39 ?_
          refine lv_topl (fun z_7 ez_7 => ?_)
          obtain rfl : z_7 = (-4611686018427387915) := ez_7.trans (by decide +kernel)
          exact W.lret hx hb hr (fun t ht hW => ⟨_, rfl, (Or.inr ⟨⟨(by decide +kernel), (by omega)⟩, (show ((n0).toInt = 0 ∧ ((-4611686018427387915) : Int64).toInt = -4611686018427387915) ∨ ((n0).toInt ≠ 0 ∧ (n0).toInt ≠ 2 ∧ ((-4611686018427387915) : Int64).toInt = -4611686018427387917) ∨ ((n0).toInt = 2 ∧ x2.toInt = 0 ∧ ((-4611686018427387915) : Int64).toInt = (p0).toInt) ∨ ((n0).toInt = 2 ∧ x2.toInt ≠ 0 ∧ ((-4611686018427387915) : Int64).toInt = (q0).toInt) from by have h9r : ((-4611686018427387915) : Int64).toInt = -4611686018427387915 := (by decide +kernel); omega)⟩), ht⟩) (fun _ h => by cases h) dX12_asFraction_40
        · refine lv_istore_n (lv' := [(3, .int 0), (0, .ref h0), (1, .int 0), (2, .int x2)]) hx hb dX12_asFraction_29 rfl hl (by decide +kernel) rfl (fun ls hl => ?_)
          refine lv_iload_n hx hb dX12_asFraction_30 rfl (lv_at hl 0 rfl) ?_
          refine lv_if_eq (tgt := 41) hx hb dX12_asFraction_31 (by decide +kernel) (fun _ => ?_) (fun c9 => absurd c9 (by decide +kernel))
          refine lv_iload_n hx hb dX12_asFraction_41 rfl (lv_at hl 3 rfl) ?_
          refine lv_if_ne (tgt := 57) hx hb dX12_asFraction_42 (by decide +kernel) (fun c_8 => ?_) (fun c_8 => ?_)
          · rw [fa_eq] at c_8
            try rw [ti_0] at c_8
            refine lv_aload_n hx hb dX12_asFraction_57 rfl (lv_at hl 1 rfl) ?_
            refine va_get (D := D) (ci := 9) (v := .ref h1) (C := RX12) (T := TX12) (N := 11) hx hb hts in_X12_asFraction_X12 hown hE.1 hP 0 rfl rfl 10 (by decide +kernel) (hts (.fieldLink RX12 71 "ClauseBook" "hands" "[LClauseBook$Hand;") (List.mem_of_getElem? (i := 2) rfl)) (fun _ h9 => h9) e0_10 dX12_asFraction_58 ?_
            refine lv_iload_n hx hb dX12_asFraction_61 rfl (lv_at hl 2 rfl) ?_
            refine va_aldq hx hb hE.1 hP 1 7 rfl rfl (by unfold vp_in; decide) dX12_asFraction_62 ?_
            refine W.eq (g2 := F0 m 63 ls [.ref h2]) (by rw [show (0 : Int32).toNatClampNeg = 0 from rfl, e1_0]; rfl) ?_
            refine va_get (D := D) (ci := 3) (v := .long q0) (C := RX4) (T := TX4) (N := 4) hx hb hts in_X12_asFraction_X4 hown hE.1 hP 2 rfl rfl 3 (by decide +kernel) (hts (.fieldLink RX12 368 "ClauseBook$Hand" "below" "J") (List.mem_of_getElem? (i := 5) rfl)) (fun _ h9 => h9) e2_3 dX12_asFraction_63 ?_
            exact W.lret hx hb hr (fun t ht hW => ⟨_, rfl, (Or.inr ⟨⟨(by decide +kernel), (by omega)⟩, (show ((n0).toInt = 0 ∧ (q0 : Int64).toInt = -4611686018427387915) ∨ ((n0).toInt ≠ 0 ∧ (n0).toInt ≠ 2 ∧ (q0 : Int64).toInt = -4611686018427387917) ∨ ((n0).toInt = 2 ∧ x2.toInt = 0 ∧ (q0 : Int64).toInt = (p0).toInt) ∨ ((n0).toInt = 2 ∧ x2.toInt ≠ 0 ∧ (q0 : Int64).toInt = (q0).toInt) from by omega)⟩), ht⟩) (fun _ h => by cases h) dX12_asFraction_66
          · rw [fa_eq] at c_8
            try rw [ti_0] at c_8
            refine lv_aload_n hx hb dX12_asFraction_45 rfl (lv_at hl 1 rfl) ?_
            refine va_get (D := D) (ci := 9) (v := .ref h1) (C := RX12) (T := TX12) (N := 11) hx hb hts in_X12_asFraction_X12 hown hE.1 hP 0 rfl rfl 10 (by decide +kernel) (hts (.fieldLink RX12 71 "ClauseBook" "hands" "[LClauseBook$Hand;") (List.mem_of_getElem? (i := 2) rfl)) (fun _ h9 => h9) e0_10 dX12_asFraction_46 ?_
            refine lv_iload_n hx hb dX12_asFraction_49 rfl (lv_at hl 2 rfl) ?_
            refine va_aldq hx hb hE.1 hP 1 7 rfl rfl (by unfold vp_in; decide) dX12_asFraction_50 ?_
            refine W.eq (g2 := F0 m 51 ls [.ref h2]) (by rw [show (0 : Int32).toNatClampNeg = 0 from rfl, e1_0]; rfl) ?_
            refine va_get (D := D) (ci := 3) (v := .long p0) (C := RX4) (T := TX4) (N := 4) hx hb hts in_X12_asFraction_X4 hown hE.1 hP 2 rfl rfl 2 (by decide +kernel) (hts (.fieldLink RX12 365 "ClauseBook$Hand" "above" "J") (List.mem_of_getElem? (i := 4) rfl)) (fun _ h9 => h9) e2_2 dX12_asFraction_51 ?_
            refine lv_goto (tgt := 66) hx hb dX12_asFraction_54 (by decide +kernel) ?_
            exact W.lret hx hb hr (fun t ht hW => ⟨_, rfl, (Or.inr ⟨⟨(by decide +kernel), (by omega)⟩, (show ((n0).toInt = 0 ∧ (p0 : Int64).toInt = -4611686018427387915) ∨ ((n0).toInt ≠ 0 ∧ (n0).toInt ≠ 2 ∧ (p0 : Int64).toInt = -4611686018427387917) ∨ ((n0).toInt = 2 ∧ x2.toInt = 0 ∧ (p0 : Int64).toInt = (p0).toInt) ∨ ((n0).toInt = 2 ∧ x2.toInt ≠ 0 ∧ (p0 : Int64).toInt = (q0).toInt) from by omega)⟩), ht⟩) (fun _ h => by cases h) dX12_asFraction_66
        · refine lv_istore_n (lv' := [(3, .int (-13)), (0, .ref h0), (1, .int 0), (2, .int x2)]) hx hb dX12_asFraction_29 rfl hl (by decide +kernel) rfl (fun ls hl => ?_)
          refine lv_iload_n hx hb dX12_asFraction_30 rfl (lv_at hl 0 rfl) ?_
          refine lv_if_eq (tgt := 41) hx hb dX12_asFraction_31 (by decide +kernel) (fun c9 => absurd c9 (by decide +kernel)) (fun _ => ?_)
          refine lv_ldc2 (v := (-4611686018427387904)) hx hb hown (hts (.constantLong RX12 324 (-4611686018427387904)) (List.mem_of_getElem? (i := 3) rfl)) dX12_asFraction_34 ?_
          refine lv_iload_n hx hb dX12_asFraction_37 rfl (lv_at hl 0 rfl) ?_
          refine lv_i2l (v := (-13)) hx hb dX12_asFraction_38 (by decide +kernel) ?_
          refine lv_ladd hx hb dX12_asFraction_39 ?_
          refine lv_topl (fun z_9 ez_9 => ?_)
          obtain rfl : z_9 = (-4611686018427387917) := ez_9.trans (by decide +kernel)
          exact W.lret hx hb hr (fun t ht hW => ⟨_, rfl, (Or.inr ⟨⟨(by decide +kernel), (by omega)⟩, (show ((n0).toInt = 0 ∧ ((-4611686018427387917) : Int64).toInt = -4611686018427387915) ∨ ((n0).toInt ≠ 0 ∧ (n0).toInt ≠ 2 ∧ ((-4611686018427387917) : Int64).toInt = -4611686018427387917) ∨ ((n0).toInt = 2 ∧ x2.toInt = 0 ∧ ((-4611686018427387917) : Int64).toInt = (p0).toInt) ∨ ((n0).toInt = 2 ∧ x2.toInt ≠ 0 ∧ ((-4611686018427387917) : Int64).toInt = (q0).toInt) from by have h9r : ((-4611686018427387917) : Int64).toInt = -4611686018427387917 := (by decide +kernel); omega)⟩), ht⟩) (fun _ h => by cases h) dX12_asFraction_40
      · refine va_aldq hx hb hE.1 hP 1 7 rfl rfl (by unfold vp_in; decide) dX12_asFraction_25 ?_
        refine W.eq (g2 := F0 m 26 ls [.ref h3]) (by rw [show (1 : Int32).toNatClampNeg = 1 from rfl, e1_1]; rfl) ?_
        refine vp_callSi (W.runV (As := []) (rest := []) ⟨hx, hb, hml, hown, hts⟩ (c_X4_fractionFault l D T h3 fs3 n1 e3_0) (cwV 0 hts gX12_asFraction_X4_fractionFault rfl rfl rfl hv_X4_fractionFault ⟨Nat.le_of_ble_eq_true rfl, Nat.le_of_ble_eq_true rfl⟩) (pR_V (q := (RX4, TX4, 4)) (ci := 3) (q0 := 3) hP hE rfl rfl [3] rfl) rfl rfl hl.1 rfl (lv_room (Nat.le_of_ble_eq_true rfl)) dX12_asFraction_26 ⟨Nat.le_of_ble_eq_true rfl, Nat.le_of_ble_eq_true rfl⟩) (fun r_10 hr_10 => ?_)
        rcases ff_post hr_10 with ⟨c_11, rfl⟩ | ⟨c_11, rfl⟩ | ⟨c_11, rfl⟩
        · refine lv_istore_n (lv' := [(3, .int (-11)), (0, .ref h0), (1, .int 1), (2, .int x2)]) hx hb dX12_asFraction_29 rfl hl (by decide +kernel) rfl (fun ls hl => ?_)
          refine lv_iload_n hx hb dX12_asFraction_30 rfl (lv_at hl 0 rfl) ?_
          refine lv_if_eq (tgt := 41) hx hb dX12_asFraction_31 (by decide +kernel) (fun c9 => absurd c9 (by decide +kernel)) (fun _ => ?_)
          refine lv_ldc2 (v := (-4611686018427387904)) hx hb hown (hts (.constantLong RX12 324 (-4611686018427387904)) (List.mem_of_getElem? (i := 3) rfl)) dX12_asFraction_34 ?_
          refine lv_iload_n hx hb dX12_asFraction_37 rfl (lv_at hl 0 rfl) ?_
          refine lv_i2l (v := (-11)) hx hb dX12_asFraction_38 (by decide +kernel) ?_
          refine lv_ladd hx hb dX12_asFraction_39 ?_
          refine lv_topl (fun z_12 ez_12 => ?_)
          obtain rfl : z_12 = (-4611686018427387915) := ez_12.trans (by decide +kernel)
          exact W.lret hx hb hr (fun t ht hW => ⟨_, rfl, (Or.inr ⟨⟨(by decide +kernel), (by omega)⟩, (show ((n1).toInt = 0 ∧ ((-4611686018427387915) : Int64).toInt = -4611686018427387915) ∨ ((n1).toInt ≠ 0 ∧ (n1).toInt ≠ 2 ∧ ((-4611686018427387915) : Int64).toInt = -4611686018427387917) ∨ ((n1).toInt = 2 ∧ x2.toInt = 0 ∧ ((-4611686018427387915) : Int64).toInt = (p1).toInt) ∨ ((n1).toInt = 2 ∧ x2.toInt ≠ 0 ∧ ((-4611686018427387915) : Int64).toInt = (q1).toInt) from by have h9r : ((-4611686018427387915) : Int64).toInt = -4611686018427387915 := (by decide +kernel); omega)⟩), ht⟩) (fun _ h => by cases h) dX12_asFraction_40
        · refine lv_istore_n (lv' := [(3, .int 0), (0, .ref h0), (1, .int 1), (2, .int x2)]) hx hb dX12_asFraction_29 rfl hl (by decide +kernel) rfl (fun ls hl => ?_)
          refine lv_iload_n hx hb dX12_asFraction_30 rfl (lv_at hl 0 rfl) ?_
          refine lv_if_eq (tgt := 41) hx hb dX12_asFraction_31 (by decide +kernel) (fun _ => ?_) (fun c9 => absurd c9 (by decide +kernel))
          refine lv_iload_n hx hb dX12_asFraction_41 rfl (lv_at hl 3 rfl) ?_
          refine lv_if_ne (tgt := 57) hx hb dX12_asFraction_42 (by decide +kernel) (fun c_13 => ?_) (fun c_13 => ?_)
          · rw [fa_eq] at c_13
            try rw [ti_0] at c_13
            refine lv_aload_n hx hb dX12_asFraction_57 rfl (lv_at hl 1 rfl) ?_
            refine va_get (D := D) (ci := 9) (v := .ref h1) (C := RX12) (T := TX12) (N := 11) hx hb hts in_X12_asFraction_X12 hown hE.1 hP 0 rfl rfl 10 (by decide +kernel) (hts (.fieldLink RX12 71 "ClauseBook" "hands" "[LClauseBook$Hand;") (List.mem_of_getElem? (i := 2) rfl)) (fun _ h9 => h9) e0_10 dX12_asFraction_58 ?_
            refine lv_iload_n hx hb dX12_asFraction_61 rfl (lv_at hl 2 rfl) ?_
            refine va_aldq hx hb hE.1 hP 1 7 rfl rfl (by unfold vp_in; decide) dX12_asFraction_62 ?_
            refine W.eq (g2 := F0 m 63 ls [.ref h3]) (by rw [show (1 : Int32).toNatClampNeg = 1 from rfl, e1_1]; rfl) ?_
            refine va_get (D := D) (ci := 3) (v := .long q1) (C := RX4) (T := TX4) (N := 4) hx hb hts in_X12_asFraction_X4 hown hE.1 hP 3 rfl rfl 3 (by decide +kernel) (hts (.fieldLink RX12 368 "ClauseBook$Hand" "below" "J") (List.mem_of_getElem? (i := 5) rfl)) (fun _ h9 => h9) e3_3 dX12_asFraction_63 ?_
            exact W.lret hx hb hr (fun t ht hW => ⟨_, rfl, (Or.inr ⟨⟨(by decide +kernel), (by omega)⟩, (show ((n1).toInt = 0 ∧ (q1 : Int64).toInt = -4611686018427387915) ∨ ((n1).toInt ≠ 0 ∧ (n1).toInt ≠ 2 ∧ (q1 : Int64).toInt = -4611686018427387917) ∨ ((n1).toInt = 2 ∧ x2.toInt = 0 ∧ (q1 : Int64).toInt = (p1).toInt) ∨ ((n1).toInt = 2 ∧ x2.toInt ≠ 0 ∧ (q1 : Int64).toInt = (q1).toInt) from by omega)⟩), ht⟩) (fun _ h => by cases h) dX12_asFraction_66
          · rw [fa_eq] at c_13
            try rw [ti_0] at c_13
            refine lv_aload_n hx hb dX12_asFraction_45 rfl (lv_at hl 1 rfl) ?_
            refine va_get (D := D) (ci := 9) (v := .ref h1) (C := RX12) (T := TX12) (N := 11) hx hb hts in_X12_asFraction_X12 hown hE.1 hP 0 rfl rfl 10 (by decide +kernel) (hts (.fieldLink RX12 71 "ClauseBook" "hands" "[LClauseBook$Hand;") (List.mem_of_getElem? (i := 2) rfl)) (fun _ h9 => h9) e0_10 dX12_asFraction_46 ?_
            refine lv_iload_n hx hb dX12_asFraction_49 rfl (lv_at hl 2 rfl) ?_
            refine va_aldq hx hb hE.1 hP 1 7 rfl rfl (by unfold vp_in; decide) dX12_asFraction_50 ?_
            refine W.eq (g2 := F0 m 51 ls [.ref h3]) (by rw [show (1 : Int32).toNatClampNeg = 1 from rfl, e1_1]; rfl) ?_
            refine va_get (D := D) (ci := 3) (v := .long p1) (C := RX4) (T := TX4) (N := 4) hx hb hts in_X12_asFraction_X4 hown hE.1 hP 3 rfl rfl 2 (by decide +kernel) (hts (.fieldLink RX12 365 "ClauseBook$Hand" "above" "J") (List.mem_of_getElem? (i := 4) rfl)) (fun _ h9 => h9) e3_2 dX12_asFraction_51 ?_
            refine lv_goto (tgt := 66) hx hb dX12_asFraction_54 (by decide +kernel) ?_
            exact W.lret hx hb hr (fun t ht hW => ⟨_, rfl, (Or.inr ⟨⟨(by decide +kernel), (by omega)⟩, (show ((n1).toInt = 0 ∧ (p1 : Int64).toInt = -4611686018427387915) ∨ ((n1).toInt ≠ 0 ∧ (n1).toInt ≠ 2 ∧ (p1 : Int64).toInt = -4611686018427387917) ∨ ((n1).toInt = 2 ∧ x2.toInt = 0 ∧ (p1 : Int64).toInt = (p1).toInt) ∨ ((n1).toInt = 2 ∧ x2.toInt ≠ 0 ∧ (p1 : Int64).toInt = (q1).toInt) from by omega)⟩), ht⟩) (fun _ h => by cases h) dX12_asFraction_66
        · refine lv_istore_n (lv' := [(3, .int (-13)), (0, .ref h0), (1, .int 1), (2, .int x2)]) hx hb dX12_asFraction_29 rfl hl (by decide +kernel) rfl (fun ls hl => ?_)
          refine lv_iload_n hx hb dX12_asFraction_30 rfl (lv_at hl 0 rfl) ?_
          refine lv_if_eq (tgt := 41) hx hb dX12_asFraction_31 (by decide +kernel) (fun c9 => absurd c9 (by decide +kernel)) (fun _ => ?_)
          refine lv_ldc2 (v := (-4611686018427387904)) hx hb hown (hts (.constantLong RX12 324 (-4611686018427387904)) (List.mem_of_getElem? (i := 3) rfl)) dX12_asFraction_34 ?_
          refine lv_iload_n hx hb dX12_asFraction_37 rfl (lv_at hl 0 rfl) ?_
          refine lv_i2l (v := (-13)) hx hb dX12_asFraction_38 (by decide +kernel) ?_
          refine lv_ladd hx hb dX12_asFraction_39 ?_
          refine lv_topl (fun z_14 ez_14 => ?_)
          obtain rfl : z_14 = (-4611686018427387917) := ez_14.trans (by decide +kernel)
          exact W.lret hx hb hr (fun t ht hW => ⟨_, rfl, (Or.inr ⟨⟨(by decide +kernel), (by omega)⟩, (show ((n1).toInt = 0 ∧ ((-4611686018427387917) : Int64).toInt = -4611686018427387915) ∨ ((n1).toInt ≠ 0 ∧ (n1).toInt ≠ 2 ∧ ((-4611686018427387917) : Int64).toInt = -4611686018427387917) ∨ ((n1).toInt = 2 ∧ x2.toInt = 0 ∧ ((-4611686018427387917) : Int64).toInt = (p1).toInt) ∨ ((n1).toInt = 2 ∧ x2.toInt ≠ 0 ∧ ((-4611686018427387917) : Int64).toInt = (q1).toInt) from by have h9r : ((-4611686018427387917) : Int64).toInt = -4611686018427387917 := (by decide +kernel); omega)⟩), ht⟩) (fun _ h => by cases h) dX12_asFraction_40
      · refine va_aldq hx hb hE.1 hP 1 7 rfl rfl (by unfold vp_in; decide) dX12_asFraction_25 ?_
        refine W.eq (g2 := F0 m 26 ls [.ref h4]) (by rw [show (2 : Int32).toNatClampNeg = 2 from rfl, e1_2]; rfl) ?_
        refine vp_callSi (W.runV (As := []) (rest := []) ⟨hx, hb, hml, hown, hts⟩ (c_X4_fractionFault l D T h4 fs4 n2 e4_0) (cwV 0 hts gX12_asFraction_X4_fractionFault rfl rfl rfl hv_X4_fractionFault ⟨Nat.le_of_ble_eq_true rfl, Nat.le_of_ble_eq_true rfl⟩) (pR_V (q := (RX4, TX4, 4)) (ci := 3) (q0 := 4) hP hE rfl rfl [4] rfl) rfl rfl hl.1 rfl (lv_room (Nat.le_of_ble_eq_true rfl)) dX12_asFraction_26 ⟨Nat.le_of_ble_eq_true rfl, Nat.le_of_ble_eq_true rfl⟩) (fun r_15 hr_15 => ?_)
        rcases ff_post hr_15 with ⟨c_16, rfl⟩ | ⟨c_16, rfl⟩ | ⟨c_16, rfl⟩
        · refine lv_istore_n (lv' := [(3, .int (-11)), (0, .ref h0), (1, .int 2), (2, .int x2)]) hx hb dX12_asFraction_29 rfl hl (by decide +kernel) rfl (fun ls hl => ?_)
          refine lv_iload_n hx hb dX12_asFraction_30 rfl (lv_at hl 0 rfl) ?_
          refine lv_if_eq (tgt := 41) hx hb dX12_asFraction_31 (by decide +kernel) (fun c9 => absurd c9 (by decide +kernel)) (fun _ => ?_)
          refine lv_ldc2 (v := (-4611686018427387904)) hx hb hown (hts (.constantLong RX12 324 (-4611686018427387904)) (List.mem_of_getElem? (i := 3) rfl)) dX12_asFraction_34 ?_
          refine lv_iload_n hx hb dX12_asFraction_37 rfl (lv_at hl 0 rfl) ?_
          refine lv_i2l (v := (-11)) hx hb dX12_asFraction_38 (by decide +kernel) ?_
          refine lv_ladd hx hb dX12_asFraction_39 ?_
          refine lv_topl (fun z_17 ez_17 => ?_)
          obtain rfl : z_17 = (-4611686018427387915) := ez_17.trans (by decide +kernel)
          exact W.lret hx hb hr (fun t ht hW => ⟨_, rfl, (Or.inr ⟨⟨(by decide +kernel), (by omega)⟩, (show ((n2).toInt = 0 ∧ ((-4611686018427387915) : Int64).toInt = -4611686018427387915) ∨ ((n2).toInt ≠ 0 ∧ (n2).toInt ≠ 2 ∧ ((-4611686018427387915) : Int64).toInt = -4611686018427387917) ∨ ((n2).toInt = 2 ∧ x2.toInt = 0 ∧ ((-4611686018427387915) : Int64).toInt = (p2).toInt) ∨ ((n2).toInt = 2 ∧ x2.toInt ≠ 0 ∧ ((-4611686018427387915) : Int64).toInt = (q2).toInt) from by have h9r : ((-4611686018427387915) : Int64).toInt = -4611686018427387915 := (by decide +kernel); omega)⟩), ht⟩) (fun _ h => by cases h) dX12_asFraction_40
        · refine lv_istore_n (lv' := [(3, .int 0), (0, .ref h0), (1, .int 2), (2, .int x2)]) hx hb dX12_asFraction_29 rfl hl (by decide +kernel) rfl (fun ls hl => ?_)
          refine lv_iload_n hx hb dX12_asFraction_30 rfl (lv_at hl 0 rfl) ?_
          refine lv_if_eq (tgt := 41) hx hb dX12_asFraction_31 (by decide +kernel) (fun _ => ?_) (fun c9 => absurd c9 (by decide +kernel))
          refine lv_iload_n hx hb dX12_asFraction_41 rfl (lv_at hl 3 rfl) ?_
          refine lv_if_ne (tgt := 57) hx hb dX12_asFraction_42 (by decide +kernel) (fun c_18 => ?_) (fun c_18 => ?_)
          · rw [fa_eq] at c_18
            try rw [ti_0] at c_18
            refine lv_aload_n hx hb dX12_asFraction_57 rfl (lv_at hl 1 rfl) ?_
            refine va_get (D := D) (ci := 9) (v := .ref h1) (C := RX12) (T := TX12) (N := 11) hx hb hts in_X12_asFraction_X12 hown hE.1 hP 0 rfl rfl 10 (by decide +kernel) (hts (.fieldLink RX12 71 "ClauseBook" "hands" "[LClauseBook$Hand;") (List.mem_of_getElem? (i := 2) rfl)) (fun _ h9 => h9) e0_10 dX12_asFraction_58 ?_
            refine lv_iload_n hx hb dX12_asFraction_61 rfl (lv_at hl 2 rfl) ?_
            refine va_aldq hx hb hE.1 hP 1 7 rfl rfl (by unfold vp_in; decide) dX12_asFraction_62 ?_
            refine W.eq (g2 := F0 m 63 ls [.ref h4]) (by rw [show (2 : Int32).toNatClampNeg = 2 from rfl, e1_2]; rfl) ?_
            refine va_get (D := D) (ci := 3) (v := .long q2) (C := RX4) (T := TX4) (N := 4) hx hb hts in_X12_asFraction_X4 hown hE.1 hP 4 rfl rfl 3 (by decide +kernel) (hts (.fieldLink RX12 368 "ClauseBook$Hand" "below" "J") (List.mem_of_getElem? (i := 5) rfl)) (fun _ h9 => h9) e4_3 dX12_asFraction_63 ?_
            exact W.lret hx hb hr (fun t ht hW => ⟨_, rfl, (Or.inr ⟨⟨(by decide +kernel), (by omega)⟩, (show ((n2).toInt = 0 ∧ (q2 : Int64).toInt = -4611686018427387915) ∨ ((n2).toInt ≠ 0 ∧ (n2).toInt ≠ 2 ∧ (q2 : Int64).toInt = -4611686018427387917) ∨ ((n2).toInt = 2 ∧ x2.toInt = 0 ∧ (q2 : Int64).toInt = (p2).toInt) ∨ ((n2).toInt = 2 ∧ x2.toInt ≠ 0 ∧ (q2 : Int64).toInt = (q2).toInt) from by omega)⟩), ht⟩) (fun _ h => by cases h) dX12_asFraction_66
          · rw [fa_eq] at c_18
            try rw [ti_0] at c_18
            refine lv_aload_n hx hb dX12_asFraction_45 rfl (lv_at hl 1 rfl) ?_
            refine va_get (D := D) (ci := 9) (v := .ref h1) (C := RX12) (T := TX12) (N := 11) hx hb hts in_X12_asFraction_X12 hown hE.1 hP 0 rfl rfl 10 (by decide +kernel) (hts (.fieldLink RX12 71 "ClauseBook" "hands" "[LClauseBook$Hand;") (List.mem_of_getElem? (i := 2) rfl)) (fun _ h9 => h9) e0_10 dX12_asFraction_46 ?_
            refine lv_iload_n hx hb dX12_asFraction_49 rfl (lv_at hl 2 rfl) ?_
            refine va_aldq hx hb hE.1 hP 1 7 rfl rfl (by unfold vp_in; decide) dX12_asFraction_50 ?_
            refine W.eq (g2 := F0 m 51 ls [.ref h4]) (by rw [show (2 : Int32).toNatClampNeg = 2 from rfl, e1_2]; rfl) ?_
            refine va_get (D := D) (ci := 3) (v := .long p2) (C := RX4) (T := TX4) (N := 4) hx hb hts in_X12_asFraction_X4 hown hE.1 hP 4 rfl rfl 2 (by decide +kernel) (hts (.fieldLink RX12 365 "ClauseBook$Hand" "above" "J") (List.mem_of_getElem? (i := 4) rfl)) (fun _ h9 => h9) e4_2 dX12_asFraction_51 ?_
            refine lv_goto (tgt := 66) hx hb dX12_asFraction_54 (by decide +kernel) ?_
            exact W.lret hx hb hr (fun t ht hW => ⟨_, rfl, (Or.inr ⟨⟨(by decide +kernel), (by omega)⟩, (show ((n2).toInt = 0 ∧ (p2 : Int64).toInt = -4611686018427387915) ∨ ((n2).toInt ≠ 0 ∧ (n2).toInt ≠ 2 ∧ (p2 : Int64).toInt = -4611686018427387917) ∨ ((n2).toInt = 2 ∧ x2.toInt = 0 ∧ (p2 : Int64).toInt = (p2).toInt) ∨ ((n2).toInt = 2 ∧ x2.toInt ≠ 0 ∧ (p2 : Int64).toInt = (q2).toInt) from by omega)⟩), ht⟩) (fun _ h => by cases h) dX12_asFraction_66
        · refine lv_istore_n (lv' := [(3, .int (-13)), (0, .ref h0), (1, .int 2), (2, .int x2)]) hx hb dX12_asFraction_29 rfl hl (by decide +kernel) rfl (fun ls hl => ?_)
          refine lv_iload_n hx hb dX12_asFraction_30 rfl (lv_at hl 0 rfl) ?_
          refine lv_if_eq (tgt := 41) hx hb dX12_asFraction_31 (by decide +kernel) (fun c9 => absurd c9 (by decide +kernel)) (fun _ => ?_)
          refine lv_ldc2 (v := (-4611686018427387904)) hx hb hown (hts (.constantLong RX12 324 (-4611686018427387904)) (List.mem_of_getElem? (i := 3) rfl)) dX12_asFraction_34 ?_
          refine lv_iload_n hx hb dX12_asFraction_37 rfl (lv_at hl 0 rfl) ?_
          refine lv_i2l (v := (-13)) hx hb dX12_asFraction_38 (by decide +kernel) ?_
          refine lv_ladd hx hb dX12_asFraction_39 ?_
          refine lv_topl (fun z_19 ez_19 => ?_)
          obtain rfl : z_19 = (-4611686018427387917) := ez_19.trans (by decide +kernel)
          exact W.lret hx hb hr (fun t ht hW => ⟨_, rfl, (Or.inr ⟨⟨(by decide +kernel), (by omega)⟩, (show ((n2).toInt = 0 ∧ ((-4611686018427387917) : Int64).toInt = -4611686018427387915) ∨ ((n2).toInt ≠ 0 ∧ (n2).toInt ≠ 2 ∧ ((-4611686018427387917) : Int64).toInt = -4611686018427387917) ∨ ((n2).toInt = 2 ∧ x2.toInt = 0 ∧ ((-4611686018427387917) : Int64).toInt = (p2).toInt) ∨ ((n2).toInt = 2 ∧ x2.toInt ≠ 0 ∧ ((-4611686018427387917) : Int64).toInt = (q2).toInt) from by have h9r : ((-4611686018427387917) : Int64).toInt = -4611686018427387917 := (by decide +kernel); omega)⟩), ht⟩) (fun _ h => by cases h) dX12_asFraction_40
      · refine va_aldq hx hb hE.1 hP 1 7 rfl rfl (by unfold vp_in; decide) dX12_asFraction_25 ?_
        refine W.eq (g2 := F0 m 26 ls [.ref h5]) (by rw [show (3 : Int32).toNatClampNeg = 3 from rfl, e1_3]; rfl) ?_
        refine vp_callSi (W.runV (As := []) (rest := []) ⟨hx, hb, hml, hown, hts⟩ (c_X4_fractionFault l D T h5 fs5 n3 e5_0) (cwV 0 hts gX12_asFraction_X4_fractionFault rfl rfl rfl hv_X4_fractionFault ⟨Nat.le_of_ble_eq_true rfl, Nat.le_of_ble_eq_true rfl⟩) (pR_V (q := (RX4, TX4, 4)) (ci := 3) (q0 := 5) hP hE rfl rfl [5] rfl) rfl rfl hl.1 rfl (lv_room (Nat.le_of_ble_eq_true rfl)) dX12_asFraction_26 ⟨Nat.le_of_ble_eq_true rfl, Nat.le_of_ble_eq_true rfl⟩) (fun r_20 hr_20 => ?_)
        rcases ff_post hr_20 with ⟨c_21, rfl⟩ | ⟨c_21, rfl⟩ | ⟨c_21, rfl⟩
        · refine lv_istore_n (lv' := [(3, .int (-11)), (0, .ref h0), (1, .int 3), (2, .int x2)]) hx hb dX12_asFraction_29 rfl hl (by decide +kernel) rfl (fun ls hl => ?_)
          refine lv_iload_n hx hb dX12_asFraction_30 rfl (lv_at hl 0 rfl) ?_
          refine lv_if_eq (tgt := 41) hx hb dX12_asFraction_31 (by decide +kernel) (fun c9 => absurd c9 (by decide +kernel)) (fun _ => ?_)
          refine lv_ldc2 (v := (-4611686018427387904)) hx hb hown (hts (.constantLong RX12 324 (-4611686018427387904)) (List.mem_of_getElem? (i := 3) rfl)) dX12_asFraction_34 ?_
          refine lv_iload_n hx hb dX12_asFraction_37 rfl (lv_at hl 0 rfl) ?_
          refine lv_i2l (v := (-11)) hx hb dX12_asFraction_38 (by decide +kernel) ?_
          refine lv_ladd hx hb dX12_asFraction_39 ?_
          refine lv_topl (fun z_22 ez_22 => ?_)
          obtain rfl : z_22 = (-4611686018427387915) := ez_22.trans (by decide +kernel)
          exact W.lret hx hb hr (fun t ht hW => ⟨_, rfl, (Or.inr ⟨⟨(by decide +kernel), (by omega)⟩, (show ((n3).toInt = 0 ∧ ((-4611686018427387915) : Int64).toInt = -4611686018427387915) ∨ ((n3).toInt ≠ 0 ∧ (n3).toInt ≠ 2 ∧ ((-4611686018427387915) : Int64).toInt = -4611686018427387917) ∨ ((n3).toInt = 2 ∧ x2.toInt = 0 ∧ ((-4611686018427387915) : Int64).toInt = (p3).toInt) ∨ ((n3).toInt = 2 ∧ x2.toInt ≠ 0 ∧ ((-4611686018427387915) : Int64).toInt = (q3).toInt) from by have h9r : ((-4611686018427387915) : Int64).toInt = -4611686018427387915 := (by decide +kernel); omega)⟩), ht⟩) (fun _ h => by cases h) dX12_asFraction_40
        · refine lv_istore_n (lv' := [(3, .int 0), (0, .ref h0), (1, .int 3), (2, .int x2)]) hx hb dX12_asFraction_29 rfl hl (by decide +kernel) rfl (fun ls hl => ?_)
          refine lv_iload_n hx hb dX12_asFraction_30 rfl (lv_at hl 0 rfl) ?_
          refine lv_if_eq (tgt := 41) hx hb dX12_asFraction_31 (by decide +kernel) (fun _ => ?_) (fun c9 => absurd c9 (by decide +kernel))
          refine lv_iload_n hx hb dX12_asFraction_41 rfl (lv_at hl 3 rfl) ?_
          refine lv_if_ne (tgt := 57) hx hb dX12_asFraction_42 (by decide +kernel) (fun c_23 => ?_) (fun c_23 => ?_)
          · rw [fa_eq] at c_23
            try rw [ti_0] at c_23
            refine lv_aload_n hx hb dX12_asFraction_57 rfl (lv_at hl 1 rfl) ?_
            refine va_get (D := D) (ci := 9) (v := .ref h1) (C := RX12) (T := TX12) (N := 11) hx hb hts in_X12_asFraction_X12 hown hE.1 hP 0 rfl rfl 10 (by decide +kernel) (hts (.fieldLink RX12 71 "ClauseBook" "hands" "[LClauseBook$Hand;") (List.mem_of_getElem? (i := 2) rfl)) (fun _ h9 => h9) e0_10 dX12_asFraction_58 ?_
            refine lv_iload_n hx hb dX12_asFraction_61 rfl (lv_at hl 2 rfl) ?_
            refine va_aldq hx hb hE.1 hP 1 7 rfl rfl (by unfold vp_in; decide) dX12_asFraction_62 ?_
            refine W.eq (g2 := F0 m 63 ls [.ref h5]) (by rw [show (3 : Int32).toNatClampNeg = 3 from rfl, e1_3]; rfl) ?_
            refine va_get (D := D) (ci := 3) (v := .long q3) (C := RX4) (T := TX4) (N := 4) hx hb hts in_X12_asFraction_X4 hown hE.1 hP 5 rfl rfl 3 (by decide +kernel) (hts (.fieldLink RX12 368 "ClauseBook$Hand" "below" "J") (List.mem_of_getElem? (i := 5) rfl)) (fun _ h9 => h9) e5_3 dX12_asFraction_63 ?_
            exact W.lret hx hb hr (fun t ht hW => ⟨_, rfl, (Or.inr ⟨⟨(by decide +kernel), (by omega)⟩, (show ((n3).toInt = 0 ∧ (q3 : Int64).toInt = -4611686018427387915) ∨ ((n3).toInt ≠ 0 ∧ (n3).toInt ≠ 2 ∧ (q3 : Int64).toInt = -4611686018427387917) ∨ ((n3).toInt = 2 ∧ x2.toInt = 0 ∧ (q3 : Int64).toInt = (p3).toInt) ∨ ((n3).toInt = 2 ∧ x2.toInt ≠ 0 ∧ (q3 : Int64).toInt = (q3).toInt) from by omega)⟩), ht⟩) (fun _ h => by cases h) dX12_asFraction_66
          · rw [fa_eq] at c_23
            try rw [ti_0] at c_23
            refine lv_aload_n hx hb dX12_asFraction_45 rfl (lv_at hl 1 rfl) ?_
            refine va_get (D := D) (ci := 9) (v := .ref h1) (C := RX12) (T := TX12) (N := 11) hx hb hts in_X12_asFraction_X12 hown hE.1 hP 0 rfl rfl 10 (by decide +kernel) (hts (.fieldLink RX12 71 "ClauseBook" "hands" "[LClauseBook$Hand;") (List.mem_of_getElem? (i := 2) rfl)) (fun _ h9 => h9) e0_10 dX12_asFraction_46 ?_
            refine lv_iload_n hx hb dX12_asFraction_49 rfl (lv_at hl 2 rfl) ?_
            refine va_aldq hx hb hE.1 hP 1 7 rfl rfl (by unfold vp_in; decide) dX12_asFraction_50 ?_
            refine W.eq (g2 := F0 m 51 ls [.ref h5]) (by rw [show (3 : Int32).toNatClampNeg = 3 from rfl, e1_3]; rfl) ?_
            refine va_get (D := D) (ci := 3) (v := .long p3) (C := RX4) (T := TX4) (N := 4) hx hb hts in_X12_asFraction_X4 hown hE.1 hP 5 rfl rfl 2 (by decide +kernel) (hts (.fieldLink RX12 365 "ClauseBook$Hand" "above" "J") (List.mem_of_getElem? (i := 4) rfl)) (fun _ h9 => h9) e5_2 dX12_asFraction_51 ?_
            refine lv_goto (tgt := 66) hx hb dX12_asFraction_54 (by decide +kernel) ?_
            exact W.lret hx hb hr (fun t ht hW => ⟨_, rfl, (Or.inr ⟨⟨(by decide +kernel), (by omega)⟩, (show ((n3).toInt = 0 ∧ (p3 : Int64).toInt = -4611686018427387915) ∨ ((n3).toInt ≠ 0 ∧ (n3).toInt ≠ 2 ∧ (p3 : Int64).toInt = -4611686018427387917) ∨ ((n3).toInt = 2 ∧ x2.toInt = 0 ∧ (p3 : Int64).toInt = (p3).toInt) ∨ ((n3).toInt = 2 ∧ x2.toInt ≠ 0 ∧ (p3 : Int64).toInt = (q3).toInt) from by omega)⟩), ht⟩) (fun _ h => by cases h) dX12_asFraction_66
        · refine lv_istore_n (lv' := [(3, .int (-13)), (0, .ref h0), (1, .int 3), (2, .int x2)]) hx hb dX12_asFraction_29 rfl hl (by decide +kernel) rfl (fun ls hl => ?_)
          refine lv_iload_n hx hb dX12_asFraction_30 rfl (lv_at hl 0 rfl) ?_
          refine lv_if_eq (tgt := 41) hx hb dX12_asFraction_31 (by decide +kernel) (fun c9 => absurd c9 (by decide +kernel)) (fun _ => ?_)
          refine lv_ldc2 (v := (-4611686018427387904)) hx hb hown (hts (.constantLong RX12 324 (-4611686018427387904)) (List.mem_of_getElem? (i := 3) rfl)) dX12_asFraction_34 ?_
          refine lv_iload_n hx hb dX12_asFraction_37 rfl (lv_at hl 0 rfl) ?_
          refine lv_i2l (v := (-13)) hx hb dX12_asFraction_38 (by decide +kernel) ?_
          refine lv_ladd hx hb dX12_asFraction_39 ?_
          refine lv_topl (fun z_24 ez_24 => ?_)
          obtain rfl : z_24 = (-4611686018427387917) := ez_24.trans (by decide +kernel)
          exact W.lret hx hb hr (fun t ht hW => ⟨_, rfl, (Or.inr ⟨⟨(by decide +kernel), (by omega)⟩, (show ((n3).toInt = 0 ∧ ((-4611686018427387917) : Int64).toInt = -4611686018427387915) ∨ ((n3).toInt ≠ 0 ∧ (n3).toInt ≠ 2 ∧ ((-4611686018427387917) : Int64).toInt = -4611686018427387917) ∨ ((n3).toInt = 2 ∧ x2.toInt = 0 ∧ ((-4611686018427387917) : Int64).toInt = (p3).toInt) ∨ ((n3).toInt = 2 ∧ x2.toInt ≠ 0 ∧ ((-4611686018427387917) : Int64).toInt = (q3).toInt) from by have h9r : ((-4611686018427387917) : Int64).toInt = -4611686018427387917 := (by decide +kernel); omega)⟩), ht⟩) (fun _ h => by cases h) dX12_asFraction_40
    · refine lv_if_ne (tgt := 20) hx hb dX12_asFraction_13 (by decide +kernel) (fun c9 => absurd c9 (by decide +kernel)) (fun _ => ?_)
      refine lv_ldc2 (v := (-4611686018427387906)) hx hb hown (hts (.constantLong RX12 183 (-4611686018427387906)) (List.mem_of_getElem? (i := 1) rfl)) dX12_asFraction_16 ?_
      exact W.lret hx hb hr (fun t ht hW => ⟨_, rfl, (Or.inl ⟨(by omega), (by decide +kernel)⟩), ht⟩) (fun _ h => by cases h) dX12_asFraction_19
  · refine lv_if_eq (tgt := 16) hx hb dX12_asFraction_4 (by decide +kernel) (fun _ => ?_) (fun c9 => absurd c9 (by decide +kernel))
    refine lv_ldc2 (v := (-4611686018427387906)) hx hb hown (hts (.constantLong RX12 183 (-4611686018427387906)) (List.mem_of_getElem? (i := 1) rfl)) dX12_asFraction_16 ?_
    exact W.lret hx hb hr (fun t ht hW => ⟨_, rfl, (Or.inl ⟨(by omega), (by decide +kernel)⟩), ht⟩) (fun _ h => by cases h) dX12_asFraction_19
theorem ti_200 : (200 : Int32).toInt = 200 := by decide
theorem tl_min : (-9223372036854775808 : Int64).toInt = -9223372036854775808 := by decide
theorem dX11_reduce_0 : decode cX11_reduce 0 = .ok (.aload_n 0, 1) := by decide +kernel
theorem dX11_reduce_1 : decode cX11_reduce 1 = .ok (.getfield 11, 3) := by decide +kernel
theorem dX11_reduce_101 : decode cX11_reduce 101 = .ok (.ldiv, 1) := by decide +kernel
theorem dX11_reduce_102 : decode cX11_reduce 102 = .ok (.lastore, 1) := by decide +kernel
theorem dX11_reduce_103 : decode cX11_reduce 103 = .ok (.return_, 1) := by decide +kernel
theorem dX11_reduce_11 : decode cX11_reduce 11 = .ok (.iload_n 1, 1) := by decide +kernel
theorem dX11_reduce_12 : decode cX11_reduce 12 = .ok (.lconst 0, 1) := by decide +kernel
theorem dX11_reduce_13 : decode cX11_reduce 13 = .ok (.lastore, 1) := by decide +kernel
theorem dX11_reduce_14 : decode cX11_reduce 14 = .ok (.lload 4, 2) := by decide +kernel
theorem dX11_reduce_16 : decode cX11_reduce 16 = .ok (.lconst 0, 1) := by decide +kernel
theorem dX11_reduce_17 : decode cX11_reduce 17 = .ok (.lcmp, 1) := by decide +kernel
theorem dX11_reduce_18 : decode cX11_reduce 18 = .ok (.ifCond .gt 4, 3) := by decide +kernel
theorem dX11_reduce_21 : decode cX11_reduce 21 = .ok (.return_, 1) := by decide +kernel
theorem dX11_reduce_22 : decode cX11_reduce 22 = .ok (.lload 4, 2) := by decide +kernel
theorem dX11_reduce_24 : decode cX11_reduce 24 = .ok (.lstore 6, 2) := by decide +kernel
theorem dX11_reduce_26 : decode cX11_reduce 26 = .ok (.lload_n 2, 1) := by decide +kernel
theorem dX11_reduce_27 : decode cX11_reduce 27 = .ok (.lload 4, 2) := by decide +kernel
theorem dX11_reduce_29 : decode cX11_reduce 29 = .ok (.lrem, 1) := by decide +kernel
theorem dX11_reduce_30 : decode cX11_reduce 30 = .ok (.invokestatic 154, 3) := by decide +kernel
theorem dX11_reduce_33 : decode cX11_reduce 33 = .ok (.lstore 8, 2) := by decide +kernel
theorem dX11_reduce_35 : decode cX11_reduce 35 = .ok (.iconst 0, 1) := by decide +kernel
theorem dX11_reduce_36 : decode cX11_reduce 36 = .ok (.istore 10, 2) := by decide +kernel
theorem dX11_reduce_38 : decode cX11_reduce 38 = .ok (.iload 10, 2) := by decide +kernel
theorem dX11_reduce_4 : decode cX11_reduce 4 = .ok (.iload_n 1, 1) := by decide +kernel
theorem dX11_reduce_40 : decode cX11_reduce 40 = .ok (.sipush 200, 3) := by decide +kernel
theorem dX11_reduce_43 : decode cX11_reduce 43 = .ok (.if_icmp .ge 31, 3) := by decide +kernel
theorem dX11_reduce_46 : decode cX11_reduce 46 = .ok (.lload 8, 2) := by decide +kernel
theorem dX11_reduce_48 : decode cX11_reduce 48 = .ok (.lconst 0, 1) := by decide +kernel
theorem dX11_reduce_49 : decode cX11_reduce 49 = .ok (.lcmp, 1) := by decide +kernel
theorem dX11_reduce_5 : decode cX11_reduce 5 = .ok (.lconst 0, 1) := by decide +kernel
theorem dX11_reduce_50 : decode cX11_reduce 50 = .ok (.ifCond .eq 24, 3) := by decide +kernel
theorem dX11_reduce_53 : decode cX11_reduce 53 = .ok (.lload 6, 2) := by decide +kernel
theorem dX11_reduce_55 : decode cX11_reduce 55 = .ok (.lload 8, 2) := by decide +kernel
theorem dX11_reduce_57 : decode cX11_reduce 57 = .ok (.lrem, 1) := by decide +kernel
theorem dX11_reduce_58 : decode cX11_reduce 58 = .ok (.lstore 11, 2) := by decide +kernel
theorem dX11_reduce_6 : decode cX11_reduce 6 = .ok (.lastore, 1) := by decide +kernel
theorem dX11_reduce_60 : decode cX11_reduce 60 = .ok (.lload 8, 2) := by decide +kernel
theorem dX11_reduce_62 : decode cX11_reduce 62 = .ok (.lstore 6, 2) := by decide +kernel
theorem dX11_reduce_64 : decode cX11_reduce 64 = .ok (.lload 11, 2) := by decide +kernel
theorem dX11_reduce_66 : decode cX11_reduce 66 = .ok (.lstore 8, 2) := by decide +kernel
theorem dX11_reduce_68 : decode cX11_reduce 68 = .ok (.iinc 10 1, 3) := by decide +kernel
theorem dX11_reduce_7 : decode cX11_reduce 7 = .ok (.aload_n 0, 1) := by decide +kernel
theorem dX11_reduce_71 : decode cX11_reduce 71 = .ok (.goto (-33), 3) := by decide +kernel
theorem dX11_reduce_74 : decode cX11_reduce 74 = .ok (.lload 6, 2) := by decide +kernel
theorem dX11_reduce_76 : decode cX11_reduce 76 = .ok (.lconst 0, 1) := by decide +kernel
theorem dX11_reduce_77 : decode cX11_reduce 77 = .ok (.lcmp, 1) := by decide +kernel
theorem dX11_reduce_78 : decode cX11_reduce 78 = .ok (.ifCond .ne 4, 3) := by decide +kernel
theorem dX11_reduce_8 : decode cX11_reduce 8 = .ok (.getfield 15, 3) := by decide +kernel
theorem dX11_reduce_81 : decode cX11_reduce 81 = .ok (.return_, 1) := by decide +kernel
theorem dX11_reduce_82 : decode cX11_reduce 82 = .ok (.aload_n 0, 1) := by decide +kernel
theorem dX11_reduce_83 : decode cX11_reduce 83 = .ok (.getfield 11, 3) := by decide +kernel
theorem dX11_reduce_86 : decode cX11_reduce 86 = .ok (.iload_n 1, 1) := by decide +kernel
theorem dX11_reduce_87 : decode cX11_reduce 87 = .ok (.lload_n 2, 1) := by decide +kernel
theorem dX11_reduce_88 : decode cX11_reduce 88 = .ok (.lload 6, 2) := by decide +kernel
theorem dX11_reduce_90 : decode cX11_reduce 90 = .ok (.ldiv, 1) := by decide +kernel
theorem dX11_reduce_91 : decode cX11_reduce 91 = .ok (.lastore, 1) := by decide +kernel
theorem dX11_reduce_92 : decode cX11_reduce 92 = .ok (.aload_n 0, 1) := by decide +kernel
theorem dX11_reduce_93 : decode cX11_reduce 93 = .ok (.getfield 15, 3) := by decide +kernel
theorem dX11_reduce_96 : decode cX11_reduce 96 = .ok (.iload_n 1, 1) := by decide +kernel
theorem dX11_reduce_97 : decode cX11_reduce 97 = .ok (.lload 4, 2) := by decide +kernel
theorem dX11_reduce_99 : decode cX11_reduce 99 = .ok (.lload 6, 2) := by decide +kernel
set_option maxRecDepth 20000 in
theorem in_X11_reduce_X11 : ∀ w ∈ wsX110, w ∈ wsX11_reduce := sub_r [7, 8, 9, 10, 11, 12] rfl
set_option maxHeartbeats 4000000 in
set_option maxRecDepth 100000 in
theorem c_X11_reduce (l : Launch) (D : va_G) (T : Nat → ClassId) (sz : Nat) (h0 : Nat) (p0 : Nat) (p1 : Nat) (v0 : Value) (v1 : Value) (v4 : Value) (n : Int32) (f0 : Nat → Int64) (f1 : Nat → Int64) (x1 : Int32) (x2 : Int64) (x3 : Int64) (hx1 : 0 ≤ x1.toInt ∧ x1.toInt < 676) (hx3 : 1 ≤ x3.toInt) : Met l yX11_reduce wsX11_reduce ({ frames := 1, cells := 0, slots := 0, locals := 40 }) (pW [.ref h0, .int x1, .long x2, .long x3] D T [(h0, .inr (8, [v0, v1, .ref p0, .ref p1, v4, .int n])), (p0, .inl (T 1, 676, .inr (.inl f0))), (p1, .inl (T 1, 676, .inr (.inl f1)))] sz) (va_Qv (fun (u : (Nat → Int64) × (Nat → Int64)) => (u.1 = vp_updL f0 (x1.toNatClampNeg) (redW x2 x3).1) ∧ u.2 = vp_updL f1 (x1.toNatClampNeg) (redW x2 x3).2) (bW D (va_A [(h0, .inr (8, [v0, v1, .ref p0, .ref p1, v4, .int n])), (p0, .inl (T 1, 676, .inr (.inl f0))), (p1, .inl (T 1, 676, .inr (.inl f1)))] sz) (fun (u : (Nat → Int64) × (Nat → Int64)) => [(h0, .inr (8, [v0, v1, .ref p0, .ref p1, v4, .int n])), (p0, .inl (T 1, 676, .inr (.inl u.1))), (p1, .inl (T 1, 676, .inr (.inl u.2)))])) (va_A [(h0, .inr (8, [v0, v1, .ref p0, .ref p1, v4, .int n])), (p0, .inl (T 1, 676, .inr (.inl f0))), (p1, .inl (T 1, 676, .inr (.inl f1)))] sz)) 0 0 (va_A [(h0, .inr (8, [v0, v1, .ref p0, .ref p1, v4, .int n])), (p0, .inl (T 1, 676, .inr (.inl f0))), (p1, .inl (T 1, 676, .inr (.inl f1)))] sz) := by
  refine Met.ofW (cc := cX11_reduce) (maxL := 13) (ret := none) (by decide +kernel) rfl ?_
  intro p e s m args below meth c s₁ B hml hv
  obtain ⟨rfl, hsz, hP, hE, hD0⟩ := hv
  have hx := B.exec
  have hb := B.bytes
  have hr := B.returns
  have hts := atoms_spec (ws := wsX11_reduce) B.pre
  have hown : s.vm.findClass RX11 = some m.cls := findClass_of_methodNamed B.named
  have hlocks := B.notSynchronized
  subst hsz
  have hD := hD0.self (sz := s.heap.size)
  generalize hAe : va_A [(h0, .inr (8, [v0, v1, .ref p0, .ref p1, v4, .int n])), (p0, .inl (T 1, 676, .inr (.inl f0))), (p1, .inl (T 1, 676, .inr (.inl f1)))] s.heap.size = A at hD ⊢
  have hA : ∀ q : Nat, s.heap.size ≤ q → A q := fun q h => by rw [← hAe]; exact Or.inr h
  have hS : va_S A s.heap s.heap [] := va_S.rf
  have hP : va_P D vwCl [(h0, .inr (8, [v0, v1, .ref p0, .ref p1, v4, .int n])), (p0, .inl (T 1, 676, .inr (.inl f0))), (p1, .inl (T 1, 676, .inr (.inl f1)))] s.heap := hP
  have hl := lv_entry ([.ref h0, .int x1, .long x2, .long x3]) (n := 13) (Nat.le_of_ble_eq_true rfl)
  rw [lg_entry_eq]
  generalize (lg_sl ([.ref h0, .int x1, .long x2, .long x3]) ++ List.replicate (13 - (lg_sl ([.ref h0, .int x1, .long x2, .long x3])).length) Slot.unset).toArray = ls at hl ⊢
  have hl : lv_has ls 13 [(0, .ref h0), (1, .int x1), (2, .long x2), (4, .long x3)] := hl
  clear hD0
  refine lv_aload_n hx hb dX11_reduce_0 rfl (lv_at hl 0 rfl) ?_
  refine va_get (D := D) (ci := 8) (v := .ref p0) (C := RX11) (T := TX11) (N := 6) hx hb hts in_X11_reduce_X11 hown hE.1 hP 0 rfl rfl 2 (by decide +kernel) (hts (.fieldLink RX11 11 "ClauseBook$Worth" "above" "[J") (List.mem_of_getElem? (i := 1) rfl)) (fun _ h9 => h9) rfl dX11_reduce_1 ?_
  refine lv_iload_n hx hb dX11_reduce_4 rfl (lv_at hl 1 rfl) ?_
  refine lv_lconst (v := 0) hx hb dX11_reduce_5 (by decide +kernel) ?_
  refine va_last hx hb hE.1 hP hD hS 1 1 rfl rfl (by rw [vp_in_iff]; omega) dX11_reduce_6 (fun H locs hP hD hS => ?_)
  obtain ⟨hP, hD⟩ := wPD [(h0, .inr (8, [v0, v1, .ref p0, .ref p1, v4, .int n])), (p0, .inl (T 1, 676, .inr (.inl (vp_updL f0 (x1.toNatClampNeg) 0)))), (p1, .inl (T 1, 676, .inr (.inl f1)))] hP hD rfl
  refine lv_aload_n hx hb dX11_reduce_7 rfl (lv_at hl 0 rfl) ?_
  refine va_get (D := D) (ci := 8) (v := .ref p1) (C := RX11) (T := TX11) (N := 6) hx hb hts in_X11_reduce_X11 hown hE.1 hP 0 rfl rfl 3 (by decide +kernel) (hts (.fieldLink RX11 15 "ClauseBook$Worth" "below" "[J") (List.mem_of_getElem? (i := 2) rfl)) (fun _ h9 => h9) rfl dX11_reduce_8 ?_
  refine lv_iload_n hx hb dX11_reduce_11 rfl (lv_at hl 1 rfl) ?_
  refine lv_lconst (v := 0) hx hb dX11_reduce_12 (by decide +kernel) ?_
  refine va_last hx hb hE.1 hP hD hS 2 1 rfl rfl (by rw [vp_in_iff]; omega) dX11_reduce_13 (fun H locs hP hD hS => ?_)
  obtain ⟨hP, hD⟩ := wPD [(h0, .inr (8, [v0, v1, .ref p0, .ref p1, v4, .int n])), (p0, .inl (T 1, 676, .inr (.inl (vp_updL f0 (x1.toNatClampNeg) 0)))), (p1, .inl (T 1, 676, .inr (.inl (vp_updL f1 (x1.toNatClampNeg) 0))))] hP hD rfl
  refine lv_lload hx hb dX11_reduce_14 (lv_at hl 3 rfl) ?_
  refine lv_lconst (v := 0) hx hb dX11_reduce_16 (by decide +kernel) ?_
  refine W.lcmp hx hb dX11_reduce_17 ?_
  refine lv_if_gt (tgt := 22) hx hb dX11_reduce_18 (by decide +kernel) (fun c_1 => ?_) (fun c_1 => ?_)
  · rw [lcmp_gt] at c_1
    try rw [tl_0] at c_1
    refine lv_lload hx hb dX11_reduce_22 (lv_at hl 3 rfl) ?_
    refine lv_lstore (lv' := [(6, .long x3), (0, .ref h0), (1, .int x1), (2, .long x2), (4, .long x3)]) hx hb dX11_reduce_24 hl (by decide +kernel) rfl (fun ls hl => ?_)
    refine lv_lload_n hx hb dX11_reduce_26 rfl (lv_at hl 3 rfl) ?_
    refine lv_lload hx hb dX11_reduce_27 (lv_at hl 4 rfl) ?_
    refine lv_lrem hx hb dX11_reduce_29 (nz64 (by omega)) ?_
    refine va_mabs_long hx hb (hml.trans hl.1.symm) hown (hts (.methodLink RX11 154 Lib.MathLoose.abs_long.x) (List.mem_of_getElem? (i := 3) rfl)) (hts (.static Lib.MathLoose.abs_long.x) (List.mem_of_getElem? (i := 4) rfl)) (hts (.initialized "java/lang/Math") (List.mem_of_getElem? (i := 5) rfl)) (hts (.code Lib.MathLoose.abs_long.x Lib.MathLoose.abs_long.code 2 (some .long)) (List.mem_of_getElem? (i := 6) rfl)) (Nat.le_of_ble_eq_true rfl) (Nat.le_of_ble_eq_true rfl) (Nat.le_of_ble_eq_true rfl) (Nat.le_of_ble_eq_true rfl) dX11_reduce_30 ?_
    refine lv_topl (fun z_2 ez_2 => ?_)
    refine lv_lstore (lv' := [(8, .long z_2), (6, .long x3), (0, .ref h0), (1, .int x1), (2, .long x2), (4, .long x3)]) hx hb dX11_reduce_33 hl (by decide +kernel) rfl (fun ls hl => ?_)
    refine lv_iconst (v := 0) hx hb dX11_reduce_35 (by decide +kernel) ?_
    refine lv_istore (lv' := [(10, .int 0), (8, .long z_2), (6, .long x3), (0, .ref h0), (1, .int x1), (2, .long x2), (4, .long x3)]) hx hb dX11_reduce_36 hl (by decide +kernel) rfl (fun ls hl => ?_)
    have hab := abs_rem (x := x2) hx3 ez_2
    refine loopR (σ := (Int32) × (Int64) × (Int64)) (fun x9 ls => lv_has ls 13 [(10, .int x9.1), (6, .long x9.2.1), (8, .long x9.2.2), (0, .ref h0), (1, .int x1), (2, .long x2), (4, .long x3)] ∧ (redI x2 x3 x9.1 x9.2.1 x9.2.2)) (fun x9 => (200 - x9.1.toInt).toNat) (fun x9 ls hI ih => ?_) (0, x3, z_2) ls ⟨lv_sub hl [0, 2, 1, 3, 4, 5, 6] rfl, (red_init hx3 hab)⟩
    obtain ⟨ii, cm, rs⟩ := x9
    obtain ⟨hl, hinv⟩ := hI
    have hl : lv_has ls 13 [(10, .int ii), (6, .long cm), (8, .long rs), (0, .ref h0), (1, .int x1), (2, .long x2), (4, .long x3)] := hl
    have hinv : redI x2 x3 ii cm rs := hinv
    refine lv_iload hx hb dX11_reduce_38 (lv_at hl 0 rfl) ?_
    refine lv_sipush (v := 200) hx hb dX11_reduce_40 (by decide +kernel) ?_
    refine lv_icmp_ge (tgt := 74) hx hb dX11_reduce_43 (by decide +kernel) (fun c_3 => ?_) (fun c_3 => ?_)
    · rw [fa_le] at c_3
      try rw [ti_200] at c_3
      refine lv_lload hx hb dX11_reduce_74 (lv_at hl 1 rfl) ?_
      refine lv_lconst (v := 0) hx hb dX11_reduce_76 (by decide +kernel) ?_
      refine W.lcmp hx hb dX11_reduce_77 ?_
      refine lv_if_ne (tgt := 82) hx hb dX11_reduce_78 (by decide +kernel) (fun c_4 => ?_) (fun c_4 => ?_)
      · rw [lcmp_eq] at c_4
        try rw [tl_0] at c_4
        refine lv_aload_n hx hb dX11_reduce_82 rfl (lv_at hl 3 rfl) ?_
        refine va_get (D := D) (ci := 8) (v := .ref p0) (C := RX11) (T := TX11) (N := 6) hx hb hts in_X11_reduce_X11 hown hE.1 hP 0 rfl rfl 2 (by decide +kernel) (hts (.fieldLink RX11 11 "ClauseBook$Worth" "above" "[J") (List.mem_of_getElem? (i := 1) rfl)) (fun _ h9 => h9) rfl dX11_reduce_83 ?_
        refine lv_iload_n hx hb dX11_reduce_86 rfl (lv_at hl 4 rfl) ?_
        refine lv_lload_n hx hb dX11_reduce_87 rfl (lv_at hl 5 rfl) ?_
        refine lv_lload hx hb dX11_reduce_88 (lv_at hl 1 rfl) ?_
        refine lv_ldiv hx hb dX11_reduce_90 (nz64 (by omega)) ?_
        refine va_last hx hb hE.1 hP hD hS 1 1 rfl rfl (by rw [vp_in_iff]; omega) dX11_reduce_91 (fun H locs hP hD hS => ?_)
        obtain ⟨hP, hD⟩ := wPD [(h0, .inr (8, [v0, v1, .ref p0, .ref p1, v4, .int n])), (p0, .inl (T 1, 676, .inr (.inl (vp_updL (vp_updL f0 (x1.toNatClampNeg) 0) (x1.toNatClampNeg) (x2 / cm))))), (p1, .inl (T 1, 676, .inr (.inl (vp_updL f1 (x1.toNatClampNeg) 0))))] hP hD rfl
        refine lv_aload_n hx hb dX11_reduce_92 rfl (lv_at hl 3 rfl) ?_
        refine va_get (D := D) (ci := 8) (v := .ref p1) (C := RX11) (T := TX11) (N := 6) hx hb hts in_X11_reduce_X11 hown hE.1 hP 0 rfl rfl 3 (by decide +kernel) (hts (.fieldLink RX11 15 "ClauseBook$Worth" "below" "[J") (List.mem_of_getElem? (i := 2) rfl)) (fun _ h9 => h9) rfl dX11_reduce_93 ?_
        refine lv_iload_n hx hb dX11_reduce_96 rfl (lv_at hl 4 rfl) ?_
        refine lv_lload hx hb dX11_reduce_97 (lv_at hl 6 rfl) ?_
        refine lv_lload hx hb dX11_reduce_99 (lv_at hl 1 rfl) ?_
        refine lv_ldiv hx hb dX11_reduce_101 (nz64 (by omega)) ?_
        refine va_last hx hb hE.1 hP hD hS 2 1 rfl rfl (by rw [vp_in_iff]; omega) dX11_reduce_102 (fun H locs hP hD hS => ?_)
        obtain ⟨hP, hD⟩ := wPD [(h0, .inr (8, [v0, v1, .ref p0, .ref p1, v4, .int n])), (p0, .inl (T 1, 676, .inr (.inl (vp_updL (vp_updL f0 (x1.toNatClampNeg) 0) (x1.toNatClampNeg) (x2 / cm))))), (p1, .inl (T 1, 676, .inr (.inl (vp_updL (vp_updL f1 (x1.toNatClampNeg) 0) (x1.toNatClampNeg) (x3 / cm)))))] hP hD rfl
        exact W.vret hx hb hr (fun t ht hW => ⟨⟨((vp_updL (vp_updL f0 (x1.toNatClampNeg) 0) (x1.toNatClampNeg) (x2 / cm)), (vp_updL (vp_updL f1 (x1.toNatClampNeg) 0) (x1.toNatClampNeg) (x3 / cm))), rfl, (red_close hx3 hinv (by omega) rfl rfl), by rw [ht]; exact hP.sub [0, 1, 2] rfl, hD.sub [0, 1, 2] (by decide +kernel) rfl⟩, hS.F ht⟩) hS.2.2 dX11_reduce_103
      · rw [lcmp_eq] at c_4
        try rw [tl_0] at c_4
        exact W.vret hx hb hr (fun t ht hW => ⟨⟨((vp_updL f0 (x1.toNatClampNeg) 0), (vp_updL f1 (x1.toNatClampNeg) 0)), rfl, (by exfalso; have h9 := hinv.2.1; omega), by rw [ht]; exact hP.sub [0, 1, 2] rfl, hD.sub [0, 1, 2] (by decide +kernel) rfl⟩, hS.F ht⟩) hS.2.2 dX11_reduce_81
    · rw [fa_le] at c_3
      try rw [ti_200] at c_3
      refine lv_lload hx hb dX11_reduce_46 (lv_at hl 2 rfl) ?_
      refine lv_lconst (v := 0) hx hb dX11_reduce_48 (by decide +kernel) ?_
      refine W.lcmp hx hb dX11_reduce_49 ?_
      refine lv_if_eq (tgt := 74) hx hb dX11_reduce_50 (by decide +kernel) (fun c_5 => ?_) (fun c_5 => ?_)
      · rw [lcmp_eq] at c_5
        try rw [tl_0] at c_5
        refine lv_lload hx hb dX11_reduce_74 (lv_at hl 1 rfl) ?_
        refine lv_lconst (v := 0) hx hb dX11_reduce_76 (by decide +kernel) ?_
        refine W.lcmp hx hb dX11_reduce_77 ?_
        refine lv_if_ne (tgt := 82) hx hb dX11_reduce_78 (by decide +kernel) (fun c_6 => ?_) (fun c_6 => ?_)
        · rw [lcmp_eq] at c_6
          try rw [tl_0] at c_6
          refine lv_aload_n hx hb dX11_reduce_82 rfl (lv_at hl 3 rfl) ?_
          refine va_get (D := D) (ci := 8) (v := .ref p0) (C := RX11) (T := TX11) (N := 6) hx hb hts in_X11_reduce_X11 hown hE.1 hP 0 rfl rfl 2 (by decide +kernel) (hts (.fieldLink RX11 11 "ClauseBook$Worth" "above" "[J") (List.mem_of_getElem? (i := 1) rfl)) (fun _ h9 => h9) rfl dX11_reduce_83 ?_
          refine lv_iload_n hx hb dX11_reduce_86 rfl (lv_at hl 4 rfl) ?_
          refine lv_lload_n hx hb dX11_reduce_87 rfl (lv_at hl 5 rfl) ?_
          refine lv_lload hx hb dX11_reduce_88 (lv_at hl 1 rfl) ?_
          refine lv_ldiv hx hb dX11_reduce_90 (nz64 (by omega)) ?_
          refine va_last hx hb hE.1 hP hD hS 1 1 rfl rfl (by rw [vp_in_iff]; omega) dX11_reduce_91 (fun H locs hP hD hS => ?_)
          obtain ⟨hP, hD⟩ := wPD [(h0, .inr (8, [v0, v1, .ref p0, .ref p1, v4, .int n])), (p0, .inl (T 1, 676, .inr (.inl (vp_updL (vp_updL f0 (x1.toNatClampNeg) 0) (x1.toNatClampNeg) (x2 / cm))))), (p1, .inl (T 1, 676, .inr (.inl (vp_updL f1 (x1.toNatClampNeg) 0))))] hP hD rfl
          refine lv_aload_n hx hb dX11_reduce_92 rfl (lv_at hl 3 rfl) ?_
          refine va_get (D := D) (ci := 8) (v := .ref p1) (C := RX11) (T := TX11) (N := 6) hx hb hts in_X11_reduce_X11 hown hE.1 hP 0 rfl rfl 3 (by decide +kernel) (hts (.fieldLink RX11 15 "ClauseBook$Worth" "below" "[J") (List.mem_of_getElem? (i := 2) rfl)) (fun _ h9 => h9) rfl dX11_reduce_93 ?_
          refine lv_iload_n hx hb dX11_reduce_96 rfl (lv_at hl 4 rfl) ?_
          refine lv_lload hx hb dX11_reduce_97 (lv_at hl 6 rfl) ?_
          refine lv_lload hx hb dX11_reduce_99 (lv_at hl 1 rfl) ?_
          refine lv_ldiv hx hb dX11_reduce_101 (nz64 (by omega)) ?_
          refine va_last hx hb hE.1 hP hD hS 2 1 rfl rfl (by rw [vp_in_iff]; omega) dX11_reduce_102 (fun H locs hP hD hS => ?_)
          obtain ⟨hP, hD⟩ := wPD [(h0, .inr (8, [v0, v1, .ref p0, .ref p1, v4, .int n])), (p0, .inl (T 1, 676, .inr (.inl (vp_updL (vp_updL f0 (x1.toNatClampNeg) 0) (x1.toNatClampNeg) (x2 / cm))))), (p1, .inl (T 1, 676, .inr (.inl (vp_updL (vp_updL f1 (x1.toNatClampNeg) 0) (x1.toNatClampNeg) (x3 / cm)))))] hP hD rfl
          exact W.vret hx hb hr (fun t ht hW => ⟨⟨((vp_updL (vp_updL f0 (x1.toNatClampNeg) 0) (x1.toNatClampNeg) (x2 / cm)), (vp_updL (vp_updL f1 (x1.toNatClampNeg) 0) (x1.toNatClampNeg) (x3 / cm))), rfl, (red_close hx3 hinv (by omega) rfl rfl), by rw [ht]; exact hP.sub [0, 1, 2] rfl, hD.sub [0, 1, 2] (by decide +kernel) rfl⟩, hS.F ht⟩) hS.2.2 dX11_reduce_103
        · rw [lcmp_eq] at c_6
          try rw [tl_0] at c_6
          exact W.vret hx hb hr (fun t ht hW => ⟨⟨((vp_updL f0 (x1.toNatClampNeg) 0), (vp_updL f1 (x1.toNatClampNeg) 0)), rfl, (by exfalso; have h9 := hinv.2.1; omega), by rw [ht]; exact hP.sub [0, 1, 2] rfl, hD.sub [0, 1, 2] (by decide +kernel) rfl⟩, hS.F ht⟩) hS.2.2 dX11_reduce_81
      · rw [lcmp_eq] at c_5
        try rw [tl_0] at c_5
        refine lv_lload hx hb dX11_reduce_53 (lv_at hl 1 rfl) ?_
        refine lv_lload hx hb dX11_reduce_55 (lv_at hl 2 rfl) ?_
        refine lv_lrem hx hb dX11_reduce_57 (nz64 (by omega)) ?_
        refine lv_topl (fun z_7 ez_7 => ?_)
        refine lv_lstore (lv' := [(11, .long z_7), (10, .int ii), (6, .long cm), (8, .long rs), (0, .ref h0), (1, .int x1), (2, .long x2), (4, .long x3)]) hx hb dX11_reduce_58 hl (by decide +kernel) rfl (fun ls hl => ?_)
        refine lv_lload hx hb dX11_reduce_60 (lv_at hl 3 rfl) ?_
        refine lv_lstore (lv' := [(6, .long rs), (11, .long z_7), (10, .int ii), (8, .long rs), (0, .ref h0), (1, .int x1), (2, .long x2), (4, .long x3)]) hx hb dX11_reduce_62 hl (by decide +kernel) rfl (fun ls hl => ?_)
        refine lv_lload hx hb dX11_reduce_64 (lv_at hl 1 rfl) ?_
        refine lv_lstore (lv' := [(8, .long z_7), (6, .long rs), (11, .long z_7), (10, .int ii), (0, .ref h0), (1, .int x1), (2, .long x2), (4, .long x3)]) hx hb dX11_reduce_66 hl (by decide +kernel) rfl (fun ls hl => ?_)
        obtain ⟨z_8, ez_8⟩ : ∃ y : Int32, y = ii + 1 := ⟨_, rfl⟩
        refine lv_iinc (v := z_8) (lv' := [(10, .int z_8), (8, .long z_7), (6, .long rs), (11, .long z_7), (0, .ref h0), (1, .int x1), (2, .long x2), (4, .long x3)]) hx hb dX11_reduce_68 hl (k := 3) rfl (by rw [ez_8]; rfl) (by decide +kernel) rfl (fun ls hl => ?_)
        refine lv_goto (tgt := 38) hx hb dX11_reduce_71 (by decide +kernel) ?_
        exact ih (z_8, rs, z_7) ls ⟨lv_sub hl [0, 2, 1, 4, 5, 6, 7] rfl, (red_back hinv (by omega) (by omega) ez_7 (by rw [ez_8]; exact inc1 (n := 200) (by omega) (by decide +kernel)))⟩ (by subst_vars; (try dsimp only); rw [inc1 (n := 200) (by omega) (by decide +kernel)]; omega)
  · rw [lcmp_gt] at c_1
    try rw [tl_0] at c_1
    exact W.vret hx hb hr (fun t ht hW => ⟨⟨((vp_updL f0 (x1.toNatClampNeg) 0), (vp_updL f1 (x1.toNatClampNeg) 0)), rfl, (by exfalso; omega), by rw [ht]; exact hP.sub [0, 1, 2] rfl, hD.sub [0, 1, 2] (by decide +kernel) rfl⟩, hS.F ht⟩) hS.2.2 dX11_reduce_21
