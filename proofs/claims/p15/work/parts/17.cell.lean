theorem dX12_placeFault_0 : decode cX12_placeFault 0 = .ok (.iload_n 1, 1) := by decide +kernel
theorem dX12_placeFault_1 : decode cX12_placeFault 1 = .ok (.iconst 0, 1) := by decide +kernel
theorem dX12_placeFault_11 : decode cX12_placeFault 11 = .ok (.ireturn, 1) := by decide +kernel
theorem dX12_placeFault_12 : decode cX12_placeFault 12 = .ok (.aload_n 0, 1) := by decide +kernel
theorem dX12_placeFault_13 : decode cX12_placeFault 13 = .ok (.getfield 65, 3) := by decide +kernel
theorem dX12_placeFault_16 : decode cX12_placeFault 16 = .ok (.iload_n 1, 1) := by decide +kernel
theorem dX12_placeFault_17 : decode cX12_placeFault 17 = .ok (.aaload, 1) := by decide +kernel
theorem dX12_placeFault_18 : decode cX12_placeFault 18 = .ok (.getfield 277, 3) := by decide +kernel
theorem dX12_placeFault_2 : decode cX12_placeFault 2 = .ok (.iconst 3, 1) := by decide +kernel
theorem dX12_placeFault_21 : decode cX12_placeFault 21 = .ok (.iconst (-1), 1) := by decide +kernel
theorem dX12_placeFault_22 : decode cX12_placeFault 22 = .ok (.if_icmp .ne 6, 3) := by decide +kernel
theorem dX12_placeFault_25 : decode cX12_placeFault 25 = .ok (.bipush (-11), 2) := by decide +kernel
theorem dX12_placeFault_27 : decode cX12_placeFault 27 = .ok (.ireturn, 1) := by decide +kernel
theorem dX12_placeFault_28 : decode cX12_placeFault 28 = .ok (.iload_n 2, 1) := by decide +kernel
theorem dX12_placeFault_29 : decode cX12_placeFault 29 = .ok (.iconst 0, 1) := by decide +kernel
theorem dX12_placeFault_3 : decode cX12_placeFault 3 = .ok (.invokestatic 77, 3) := by decide +kernel
theorem dX12_placeFault_30 : decode cX12_placeFault 30 = .ok (.aload_n 0, 1) := by decide +kernel
theorem dX12_placeFault_31 : decode cX12_placeFault 31 = .ok (.getfield 65, 3) := by decide +kernel
theorem dX12_placeFault_34 : decode cX12_placeFault 34 = .ok (.iload_n 1, 1) := by decide +kernel
theorem dX12_placeFault_35 : decode cX12_placeFault 35 = .ok (.aaload, 1) := by decide +kernel
theorem dX12_placeFault_36 : decode cX12_placeFault 36 = .ok (.getfield 280, 3) := by decide +kernel
theorem dX12_placeFault_39 : decode cX12_placeFault 39 = .ok (.iconst 1, 1) := by decide +kernel
theorem dX12_placeFault_40 : decode cX12_placeFault 40 = .ok (.isub, 1) := by decide +kernel
theorem dX12_placeFault_41 : decode cX12_placeFault 41 = .ok (.invokestatic 77, 3) := by decide +kernel
theorem dX12_placeFault_44 : decode cX12_placeFault 44 = .ok (.ifCond .eq 7, 3) := by decide +kernel
theorem dX12_placeFault_47 : decode cX12_placeFault 47 = .ok (.iconst 0, 1) := by decide +kernel
theorem dX12_placeFault_48 : decode cX12_placeFault 48 = .ok (.goto 5, 3) := by decide +kernel
theorem dX12_placeFault_51 : decode cX12_placeFault 51 = .ok (.bipush (-12), 2) := by decide +kernel
theorem dX12_placeFault_53 : decode cX12_placeFault 53 = .ok (.ireturn, 1) := by decide +kernel
theorem dX12_placeFault_6 : decode cX12_placeFault 6 = .ok (.ifCond .ne 6, 3) := by decide +kernel
theorem dX12_placeFault_9 : decode cX12_placeFault 9 = .ok (.bipush (-2), 2) := by decide +kernel
set_option maxRecDepth 20000 in
theorem ggX12_placeFault_X12_within : GoodIn wsX12_placeFault wsX12_within := goodIn_r _ [7] rfl (by decide +kernel)
set_option maxRecDepth 20000 in
theorem gX12_placeFault_X12_within : GoodIn wsX12_placeFault (va_wsS RX12 77 yX12_within wsX12_within) := goodIn_app (goodIn_of _ (by decide +kernel)) ggX12_placeFault_X12_within
set_option maxRecDepth 20000 in
theorem in_X12_placeFault_X12 : ∀ w ∈ wsX120, w ∈ wsX12_placeFault := sub_r [8, 9, 10, 11, 12, 13, 14, 15, 16, 17, 18] rfl
set_option maxRecDepth 20000 in
theorem in_X12_placeFault_X9 : ∀ w ∈ wsX90, w ∈ wsX12_placeFault := sub_r [19, 20, 21, 22, 23, 24] rfl
set_option maxHeartbeats 4000000 in
set_option maxRecDepth 100000 in
theorem c_X12_placeFault (l : Launch) (D : va_G) (T : Nat → ClassId) (h0 : Nat) (fs0 : List Value) (h1 : Nat) (f1 : Nat → Option Nat) (h2 : Nat) (fs2 : List Value) (h3 : Nat) (fs3 : List Value) (h4 : Nat) (fs4 : List Value) (h5 : Nat) (fs5 : List Value) (x1 : Int32) (x2 : Int32) (so : Nat → Int32) (sn : Nat → Int32) (e0_9 : fs0[9]? = some (.ref h1)) (e1_0 : f1 0 = some h2) (e1_1 : f1 1 = some h3) (e1_2 : f1 2 = some h4) (e1_3 : f1 3 = some h5) (e2_0 : fs2[0]? = some (.int (so 0))) (e2_1 : fs2[1]? = some (.int (sn 0))) (e3_0 : fs3[0]? = some (.int (so 1))) (e3_1 : fs3[1]? = some (.int (sn 1))) (e4_0 : fs4[0]? = some (.int (so 2))) (e4_1 : fs4[1]? = some (.int (sn 2))) (e5_0 : fs5[0]? = some (.int (so 3))) (e5_1 : fs5[1]? = some (.int (sn 3))) (hn0 : 0 ≤ (sn 0).toInt ∧ (sn 0).toInt ≤ 30) (hn1 : 0 ≤ (sn 1).toInt ∧ (sn 1).toInt ≤ 30) (hn2 : 0 ≤ (sn 2).toInt ∧ (sn 2).toInt ≤ 30) (hn3 : 0 ≤ (sn 3).toInt ∧ (sn 3).toInt ≤ 30) : Met l yX12_placeFault wsX12_placeFault ({ frames := 1, cells := 0, slots := 0, locals := 22 }) (pR [.ref h0, .int x1, .int x2] D T [(h0, .inr (9, fs0)), (h1, .inl (T 6, 4, .inr (.inr (.inr (.inr f1))))), (h2, .inr (6, fs2)), (h3, .inr (6, fs3)), (h4, .inr (6, fs4)), (h5, .inr (6, fs5))]) (vp_Si (fun r => (r.toInt = 0 → (0 ≤ x1.toInt ∧ x1.toInt ≤ 3) ∧ 0 ≤ x2.toInt ∧ x2.toInt < 30) ∧ (¬ (0 ≤ x1.toInt ∧ x1.toInt ≤ 3) → r.toInt = -2) ∧ ((0 ≤ x1.toInt ∧ x1.toInt ≤ 3) → ((so (x1.toNatClampNeg)).toInt = -1 → r.toInt = -11) ∧ (¬ (so (x1.toNatClampNeg)).toInt = -1 → ((0 ≤ x2.toInt ∧ x2.toInt < (sn (x1.toNatClampNeg)).toInt) → r.toInt = 0) ∧ (¬ (0 ≤ x2.toInt ∧ x2.toInt < (sn (x1.toNatClampNeg)).toInt) → r.toInt = -12))))) 0 0 (fun _ => False) := by
  refine Met.ofW (cc := cX12_placeFault) (maxL := 3) (ret := (some .int)) (by decide +kernel) rfl ?_
  intro p e s m args below meth c s₁ B hml hv
  obtain ⟨rfl, hP, hE⟩ := hv
  have hx := B.exec
  have hb := B.bytes
  have hr := B.returns
  have hts := atoms_spec (ws := wsX12_placeFault) B.pre
  have hown : s.vm.findClass RX12 = some m.cls := findClass_of_methodNamed B.named
  have hlocks := B.notSynchronized
  have hP : va_P D vwCl [(h0, .inr (9, fs0)), (h1, .inl (T 6, 4, .inr (.inr (.inr (.inr f1))))), (h2, .inr (6, fs2)), (h3, .inr (6, fs3)), (h4, .inr (6, fs4)), (h5, .inr (6, fs5))] s.heap := hP
  have hl := lv_entry ([.ref h0, .int x1, .int x2]) (n := 3) (Nat.le_of_ble_eq_true rfl)
  rw [lg_entry_eq]
  generalize (lg_sl ([.ref h0, .int x1, .int x2]) ++ List.replicate (3 - (lg_sl ([.ref h0, .int x1, .int x2])).length) Slot.unset).toArray = ls at hl ⊢
  have hl : lv_has ls 3 [(0, .ref h0), (1, .int x1), (2, .int x2)] := hl
  have hd0 := dec1 (i := (sn 0)) (by omega)
  have hd1 := dec1 (i := (sn 1)) (by omega)
  have hd2 := dec1 (i := (sn 2)) (by omega)
  have hd3 := dec1 (i := (sn 3)) (by omega)
  refine lv_iload_n hx hb dX12_placeFault_0 rfl (lv_at hl 1 rfl) ?_
  refine lv_iconst (v := 0) hx hb dX12_placeFault_1 (by decide +kernel) ?_
  refine lv_iconst (v := 3) hx hb dX12_placeFault_2 (by decide +kernel) ?_
  refine vp_callSi (W.runS (As := [.int x1, .int 0, .int 3]) (rest := []) ⟨hx, hb, hml, hown, hts⟩ (c_X12_within l D T x1 0 3 0 3 (by decide +kernel) (by decide +kernel)) (va_cwS 3 hts gX12_placeFault_X12_within rfl rfl rfl hs_X12_within ⟨Nat.le_of_ble_eq_true rfl, Nat.le_of_ble_eq_true rfl⟩) (pR_S hP hE [] rfl) rfl rfl hl.1 rfl (lv_room (Nat.le_of_ble_eq_true rfl)) dX12_placeFault_3 ⟨Nat.le_of_ble_eq_true rfl, Nat.le_of_ble_eq_true rfl⟩) (fun r_1 hr_1 => ?_)
  rcases bool_post hr_1 with ⟨c_2, rfl⟩ | ⟨c_2, rfl⟩
  · refine lv_if_ne (tgt := 12) hx hb dX12_placeFault_6 (by decide +kernel) (fun _ => ?_) (fun c9 => absurd c9 (by decide +kernel))
    refine lv_aload_n hx hb dX12_placeFault_12 rfl (lv_at hl 0 rfl) ?_
    refine va_get (D := D) (ci := 9) (v := .ref h1) (C := RX12) (T := TX12) (N := 11) hx hb hts in_X12_placeFault_X12 hown hE.1 hP 0 rfl rfl 9 (by decide +kernel) (hts (.fieldLink RX12 65 "ClauseBook" "sheets" "[LClauseBook$Sheet;") (List.mem_of_getElem? (i := 1) rfl)) (fun _ h9 => h9) e0_9 dX12_placeFault_13 ?_
    refine lv_iload_n hx hb dX12_placeFault_16 rfl (lv_at hl 1 rfl) ?_
    rcases in4 (x := x1) (by omega) with rfl | rfl | rfl | rfl
    · have h9t := ti_0
      refine va_aldq hx hb hE.1 hP 1 6 rfl rfl (by unfold vp_in; decide) dX12_placeFault_17 ?_
      refine W.eq (g2 := F0 m 18 ls [.ref h2]) (by rw [show (0 : Int32).toNatClampNeg = 0 from rfl, e1_0]; rfl) ?_
      refine va_get (D := D) (ci := 6) (v := .int (so 0)) (C := RX9) (T := TX9) (N := 6) hx hb hts in_X12_placeFault_X9 hown hE.1 hP 2 rfl rfl 0 (by decide +kernel) (hts (.fieldLink RX12 277 "ClauseBook$Sheet" "sort" "I") (List.mem_of_getElem? (i := 2) rfl)) (fun _ h9 => h9) e2_0 dX12_placeFault_18 ?_
      refine lv_iconst (v := (-1)) hx hb dX12_placeFault_21 (by decide +kernel) ?_
      refine lv_icmp_ne (tgt := 28) hx hb dX12_placeFault_22 (by decide +kernel) (fun c_3 => ?_) (fun c_3 => ?_)
      · rw [fa_eq] at c_3
        try rw [ti_n1] at c_3
        refine lv_iload_n hx hb dX12_placeFault_28 rfl (lv_at hl 2 rfl) ?_
        refine lv_iconst (v := 0) hx hb dX12_placeFault_29 (by decide +kernel) ?_
        refine lv_aload_n hx hb dX12_placeFault_30 rfl (lv_at hl 0 rfl) ?_
        refine va_get (D := D) (ci := 9) (v := .ref h1) (C := RX12) (T := TX12) (N := 11) hx hb hts in_X12_placeFault_X12 hown hE.1 hP 0 rfl rfl 9 (by decide +kernel) (hts (.fieldLink RX12 65 "ClauseBook" "sheets" "[LClauseBook$Sheet;") (List.mem_of_getElem? (i := 1) rfl)) (fun _ h9 => h9) e0_9 dX12_placeFault_31 ?_
        refine lv_iload_n hx hb dX12_placeFault_34 rfl (lv_at hl 1 rfl) ?_
        refine va_aldq hx hb hE.1 hP 1 6 rfl rfl (by unfold vp_in; decide) dX12_placeFault_35 ?_
        refine W.eq (g2 := F0 m 36 ls [.ref h2, .int 0, .int x2]) (by rw [show (0 : Int32).toNatClampNeg = 0 from rfl, e1_0]; rfl) ?_
        refine va_get (D := D) (ci := 6) (v := .int (sn 0)) (C := RX9) (T := TX9) (N := 6) hx hb hts in_X12_placeFault_X9 hown hE.1 hP 2 rfl rfl 1 (by decide +kernel) (hts (.fieldLink RX12 280 "ClauseBook$Sheet" "size" "I") (List.mem_of_getElem? (i := 3) rfl)) (fun _ h9 => h9) e2_1 dX12_placeFault_36 ?_
        refine lv_iconst (v := 1) hx hb dX12_placeFault_39 (by decide +kernel) ?_
        refine lv_isub hx hb dX12_placeFault_40 ?_
        refine vp_callSi (W.runS (As := [.int x2, .int 0, .int ((sn 0) - 1)]) (rest := []) ⟨hx, hb, hml, hown, hts⟩ (c_X12_within l D T x2 0 ((sn 0) - 1) 0 (((sn 0) - 1)).toInt (by decide +kernel) rfl) (va_cwS 3 hts gX12_placeFault_X12_within rfl rfl rfl hs_X12_within ⟨Nat.le_of_ble_eq_true rfl, Nat.le_of_ble_eq_true rfl⟩) (pR_S hP hE [] rfl) rfl rfl hl.1 rfl (lv_room (Nat.le_of_ble_eq_true rfl)) dX12_placeFault_41 ⟨Nat.le_of_ble_eq_true rfl, Nat.le_of_ble_eq_true rfl⟩) (fun r_4 hr_4 => ?_)
        rcases bool_post hr_4 with ⟨c_5, rfl⟩ | ⟨c_5, rfl⟩
        · refine lv_if_eq (tgt := 51) hx hb dX12_placeFault_44 (by decide +kernel) (fun c9 => absurd c9 (by decide +kernel)) (fun _ => ?_)
          refine lv_iconst (v := 0) hx hb dX12_placeFault_47 (by decide +kernel) ?_
          refine lv_goto (tgt := 53) hx hb dX12_placeFault_48 (by decide +kernel) ?_
          exact W.iret hx hb hr (fun t ht hW => ⟨_, rfl, ⟨(fun _ => by omega), (by (try dsimp only); have h9a1 : (so ((0 : Int32).toNatClampNeg)).toInt = (so 0).toInt := rfl; have h9b1 : (sn ((0 : Int32).toNatClampNeg)).toInt = (sn 0).toInt := rfl; have h9c1 : (0 : Int32).toInt = 0 := (by decide +kernel); have h9r : (0 : Int32).toInt = 0 := (by decide +kernel); omega)⟩, ht⟩) (fun _ h => by cases h) dX12_placeFault_53
        · refine lv_if_eq (tgt := 51) hx hb dX12_placeFault_44 (by decide +kernel) (fun _ => ?_) (fun c9 => absurd c9 (by decide +kernel))
          refine lv_bipush (v := (-12)) hx hb dX12_placeFault_51 (by decide +kernel) ?_
          exact W.iret hx hb hr (fun t ht hW => ⟨_, rfl, ⟨(fun h9 => absurd h9 (by decide +kernel)), (by (try dsimp only); have h9a1 : (so ((0 : Int32).toNatClampNeg)).toInt = (so 0).toInt := rfl; have h9b1 : (sn ((0 : Int32).toNatClampNeg)).toInt = (sn 0).toInt := rfl; have h9c1 : (0 : Int32).toInt = 0 := (by decide +kernel); have h9r : ((-12) : Int32).toInt = -12 := (by decide +kernel); omega)⟩, ht⟩) (fun _ h => by cases h) dX12_placeFault_53
      · rw [fa_eq] at c_3
        try rw [ti_n1] at c_3
        refine lv_bipush (v := (-11)) hx hb dX12_placeFault_25 (by decide +kernel) ?_
        exact W.iret hx hb hr (fun t ht hW => ⟨_, rfl, ⟨(fun h9 => absurd h9 (by decide +kernel)), (by (try dsimp only); have h9a1 : (so ((0 : Int32).toNatClampNeg)).toInt = (so 0).toInt := rfl; have h9b1 : (sn ((0 : Int32).toNatClampNeg)).toInt = (sn 0).toInt := rfl; have h9c1 : (0 : Int32).toInt = 0 := (by decide +kernel); have h9r : ((-11) : Int32).toInt = -11 := (by decide +kernel); omega)⟩, ht⟩) (fun _ h => by cases h) dX12_placeFault_27
    · have h9t := ti_1
      refine va_aldq hx hb hE.1 hP 1 6 rfl rfl (by unfold vp_in; decide) dX12_placeFault_17 ?_
      refine W.eq (g2 := F0 m 18 ls [.ref h3]) (by rw [show (1 : Int32).toNatClampNeg = 1 from rfl, e1_1]; rfl) ?_
      refine va_get (D := D) (ci := 6) (v := .int (so 1)) (C := RX9) (T := TX9) (N := 6) hx hb hts in_X12_placeFault_X9 hown hE.1 hP 3 rfl rfl 0 (by decide +kernel) (hts (.fieldLink RX12 277 "ClauseBook$Sheet" "sort" "I") (List.mem_of_getElem? (i := 2) rfl)) (fun _ h9 => h9) e3_0 dX12_placeFault_18 ?_
      refine lv_iconst (v := (-1)) hx hb dX12_placeFault_21 (by decide +kernel) ?_
      refine lv_icmp_ne (tgt := 28) hx hb dX12_placeFault_22 (by decide +kernel) (fun c_6 => ?_) (fun c_6 => ?_)
      · rw [fa_eq] at c_6
        try rw [ti_n1] at c_6
        refine lv_iload_n hx hb dX12_placeFault_28 rfl (lv_at hl 2 rfl) ?_
        refine lv_iconst (v := 0) hx hb dX12_placeFault_29 (by decide +kernel) ?_
        refine lv_aload_n hx hb dX12_placeFault_30 rfl (lv_at hl 0 rfl) ?_
        refine va_get (D := D) (ci := 9) (v := .ref h1) (C := RX12) (T := TX12) (N := 11) hx hb hts in_X12_placeFault_X12 hown hE.1 hP 0 rfl rfl 9 (by decide +kernel) (hts (.fieldLink RX12 65 "ClauseBook" "sheets" "[LClauseBook$Sheet;") (List.mem_of_getElem? (i := 1) rfl)) (fun _ h9 => h9) e0_9 dX12_placeFault_31 ?_
        refine lv_iload_n hx hb dX12_placeFault_34 rfl (lv_at hl 1 rfl) ?_
        refine va_aldq hx hb hE.1 hP 1 6 rfl rfl (by unfold vp_in; decide) dX12_placeFault_35 ?_
        refine W.eq (g2 := F0 m 36 ls [.ref h3, .int 0, .int x2]) (by rw [show (1 : Int32).toNatClampNeg = 1 from rfl, e1_1]; rfl) ?_
        refine va_get (D := D) (ci := 6) (v := .int (sn 1)) (C := RX9) (T := TX9) (N := 6) hx hb hts in_X12_placeFault_X9 hown hE.1 hP 3 rfl rfl 1 (by decide +kernel) (hts (.fieldLink RX12 280 "ClauseBook$Sheet" "size" "I") (List.mem_of_getElem? (i := 3) rfl)) (fun _ h9 => h9) e3_1 dX12_placeFault_36 ?_
        refine lv_iconst (v := 1) hx hb dX12_placeFault_39 (by decide +kernel) ?_
        refine lv_isub hx hb dX12_placeFault_40 ?_
        refine vp_callSi (W.runS (As := [.int x2, .int 0, .int ((sn 1) - 1)]) (rest := []) ⟨hx, hb, hml, hown, hts⟩ (c_X12_within l D T x2 0 ((sn 1) - 1) 0 (((sn 1) - 1)).toInt (by decide +kernel) rfl) (va_cwS 3 hts gX12_placeFault_X12_within rfl rfl rfl hs_X12_within ⟨Nat.le_of_ble_eq_true rfl, Nat.le_of_ble_eq_true rfl⟩) (pR_S hP hE [] rfl) rfl rfl hl.1 rfl (lv_room (Nat.le_of_ble_eq_true rfl)) dX12_placeFault_41 ⟨Nat.le_of_ble_eq_true rfl, Nat.le_of_ble_eq_true rfl⟩) (fun r_7 hr_7 => ?_)
        rcases bool_post hr_7 with ⟨c_8, rfl⟩ | ⟨c_8, rfl⟩
        · refine lv_if_eq (tgt := 51) hx hb dX12_placeFault_44 (by decide +kernel) (fun c9 => absurd c9 (by decide +kernel)) (fun _ => ?_)
          refine lv_iconst (v := 0) hx hb dX12_placeFault_47 (by decide +kernel) ?_
          refine lv_goto (tgt := 53) hx hb dX12_placeFault_48 (by decide +kernel) ?_
          exact W.iret hx hb hr (fun t ht hW => ⟨_, rfl, ⟨(fun _ => by omega), (by (try dsimp only); have h9a1 : (so ((1 : Int32).toNatClampNeg)).toInt = (so 1).toInt := rfl; have h9b1 : (sn ((1 : Int32).toNatClampNeg)).toInt = (sn 1).toInt := rfl; have h9c1 : (1 : Int32).toInt = 1 := (by decide +kernel); have h9r : (0 : Int32).toInt = 0 := (by decide +kernel); omega)⟩, ht⟩) (fun _ h => by cases h) dX12_placeFault_53
        · refine lv_if_eq (tgt := 51) hx hb dX12_placeFault_44 (by decide +kernel) (fun _ => ?_) (fun c9 => absurd c9 (by decide +kernel))
          refine lv_bipush (v := (-12)) hx hb dX12_placeFault_51 (by decide +kernel) ?_
          exact W.iret hx hb hr (fun t ht hW => ⟨_, rfl, ⟨(fun h9 => absurd h9 (by decide +kernel)), (by (try dsimp only); have h9a1 : (so ((1 : Int32).toNatClampNeg)).toInt = (so 1).toInt := rfl; have h9b1 : (sn ((1 : Int32).toNatClampNeg)).toInt = (sn 1).toInt := rfl; have h9c1 : (1 : Int32).toInt = 1 := (by decide +kernel); have h9r : ((-12) : Int32).toInt = -12 := (by decide +kernel); omega)⟩, ht⟩) (fun _ h => by cases h) dX12_placeFault_53
      · rw [fa_eq] at c_6
        try rw [ti_n1] at c_6
        refine lv_bipush (v := (-11)) hx hb dX12_placeFault_25 (by decide +kernel) ?_
        exact W.iret hx hb hr (fun t ht hW => ⟨_, rfl, ⟨(fun h9 => absurd h9 (by decide +kernel)), (by (try dsimp only); have h9a1 : (so ((1 : Int32).toNatClampNeg)).toInt = (so 1).toInt := rfl; have h9b1 : (sn ((1 : Int32).toNatClampNeg)).toInt = (sn 1).toInt := rfl; have h9c1 : (1 : Int32).toInt = 1 := (by decide +kernel); have h9r : ((-11) : Int32).toInt = -11 := (by decide +kernel); omega)⟩, ht⟩) (fun _ h => by cases h) dX12_placeFault_27
    · have h9t := ti_2
      refine va_aldq hx hb hE.1 hP 1 6 rfl rfl (by unfold vp_in; decide) dX12_placeFault_17 ?_
      refine W.eq (g2 := F0 m 18 ls [.ref h4]) (by rw [show (2 : Int32).toNatClampNeg = 2 from rfl, e1_2]; rfl) ?_
      refine va_get (D := D) (ci := 6) (v := .int (so 2)) (C := RX9) (T := TX9) (N := 6) hx hb hts in_X12_placeFault_X9 hown hE.1 hP 4 rfl rfl 0 (by decide +kernel) (hts (.fieldLink RX12 277 "ClauseBook$Sheet" "sort" "I") (List.mem_of_getElem? (i := 2) rfl)) (fun _ h9 => h9) e4_0 dX12_placeFault_18 ?_
      refine lv_iconst (v := (-1)) hx hb dX12_placeFault_21 (by decide +kernel) ?_
      refine lv_icmp_ne (tgt := 28) hx hb dX12_placeFault_22 (by decide +kernel) (fun c_9 => ?_) (fun c_9 => ?_)
      · rw [fa_eq] at c_9
        try rw [ti_n1] at c_9
        refine lv_iload_n hx hb dX12_placeFault_28 rfl (lv_at hl 2 rfl) ?_
        refine lv_iconst (v := 0) hx hb dX12_placeFault_29 (by decide +kernel) ?_
        refine lv_aload_n hx hb dX12_placeFault_30 rfl (lv_at hl 0 rfl) ?_
        refine va_get (D := D) (ci := 9) (v := .ref h1) (C := RX12) (T := TX12) (N := 11) hx hb hts in_X12_placeFault_X12 hown hE.1 hP 0 rfl rfl 9 (by decide +kernel) (hts (.fieldLink RX12 65 "ClauseBook" "sheets" "[LClauseBook$Sheet;") (List.mem_of_getElem? (i := 1) rfl)) (fun _ h9 => h9) e0_9 dX12_placeFault_31 ?_
        refine lv_iload_n hx hb dX12_placeFault_34 rfl (lv_at hl 1 rfl) ?_
        refine va_aldq hx hb hE.1 hP 1 6 rfl rfl (by unfold vp_in; decide) dX12_placeFault_35 ?_
        refine W.eq (g2 := F0 m 36 ls [.ref h4, .int 0, .int x2]) (by rw [show (2 : Int32).toNatClampNeg = 2 from rfl, e1_2]; rfl) ?_
        refine va_get (D := D) (ci := 6) (v := .int (sn 2)) (C := RX9) (T := TX9) (N := 6) hx hb hts in_X12_placeFault_X9 hown hE.1 hP 4 rfl rfl 1 (by decide +kernel) (hts (.fieldLink RX12 280 "ClauseBook$Sheet" "size" "I") (List.mem_of_getElem? (i := 3) rfl)) (fun _ h9 => h9) e4_1 dX12_placeFault_36 ?_
        refine lv_iconst (v := 1) hx hb dX12_placeFault_39 (by decide +kernel) ?_
        refine lv_isub hx hb dX12_placeFault_40 ?_
        refine vp_callSi (W.runS (As := [.int x2, .int 0, .int ((sn 2) - 1)]) (rest := []) ⟨hx, hb, hml, hown, hts⟩ (c_X12_within l D T x2 0 ((sn 2) - 1) 0 (((sn 2) - 1)).toInt (by decide +kernel) rfl) (va_cwS 3 hts gX12_placeFault_X12_within rfl rfl rfl hs_X12_within ⟨Nat.le_of_ble_eq_true rfl, Nat.le_of_ble_eq_true rfl⟩) (pR_S hP hE [] rfl) rfl rfl hl.1 rfl (lv_room (Nat.le_of_ble_eq_true rfl)) dX12_placeFault_41 ⟨Nat.le_of_ble_eq_true rfl, Nat.le_of_ble_eq_true rfl⟩) (fun r_10 hr_10 => ?_)
        rcases bool_post hr_10 with ⟨c_11, rfl⟩ | ⟨c_11, rfl⟩
        · refine lv_if_eq (tgt := 51) hx hb dX12_placeFault_44 (by decide +kernel) (fun c9 => absurd c9 (by decide +kernel)) (fun _ => ?_)
          refine lv_iconst (v := 0) hx hb dX12_placeFault_47 (by decide +kernel) ?_
          refine lv_goto (tgt := 53) hx hb dX12_placeFault_48 (by decide +kernel) ?_
          exact W.iret hx hb hr (fun t ht hW => ⟨_, rfl, ⟨(fun _ => by omega), (by (try dsimp only); have h9a1 : (so ((2 : Int32).toNatClampNeg)).toInt = (so 2).toInt := rfl; have h9b1 : (sn ((2 : Int32).toNatClampNeg)).toInt = (sn 2).toInt := rfl; have h9c1 : (2 : Int32).toInt = 2 := (by decide +kernel); have h9r : (0 : Int32).toInt = 0 := (by decide +kernel); omega)⟩, ht⟩) (fun _ h => by cases h) dX12_placeFault_53
        · refine lv_if_eq (tgt := 51) hx hb dX12_placeFault_44 (by decide +kernel) (fun _ => ?_) (fun c9 => absurd c9 (by decide +kernel))
          refine lv_bipush (v := (-12)) hx hb dX12_placeFault_51 (by decide +kernel) ?_
          exact W.iret hx hb hr (fun t ht hW => ⟨_, rfl, ⟨(fun h9 => absurd h9 (by decide +kernel)), (by (try dsimp only); have h9a1 : (so ((2 : Int32).toNatClampNeg)).toInt = (so 2).toInt := rfl; have h9b1 : (sn ((2 : Int32).toNatClampNeg)).toInt = (sn 2).toInt := rfl; have h9c1 : (2 : Int32).toInt = 2 := (by decide +kernel); have h9r : ((-12) : Int32).toInt = -12 := (by decide +kernel); omega)⟩, ht⟩) (fun _ h => by cases h) dX12_placeFault_53
      · rw [fa_eq] at c_9
        try rw [ti_n1] at c_9
        refine lv_bipush (v := (-11)) hx hb dX12_placeFault_25 (by decide +kernel) ?_
        exact W.iret hx hb hr (fun t ht hW => ⟨_, rfl, ⟨(fun h9 => absurd h9 (by decide +kernel)), (by (try dsimp only); have h9a1 : (so ((2 : Int32).toNatClampNeg)).toInt = (so 2).toInt := rfl; have h9b1 : (sn ((2 : Int32).toNatClampNeg)).toInt = (sn 2).toInt := rfl; have h9c1 : (2 : Int32).toInt = 2 := (by decide +kernel); have h9r : ((-11) : Int32).toInt = -11 := (by decide +kernel); omega)⟩, ht⟩) (fun _ h => by cases h) dX12_placeFault_27
    · have h9t := ti_3
      refine va_aldq hx hb hE.1 hP 1 6 rfl rfl (by unfold vp_in; decide) dX12_placeFault_17 ?_
      refine W.eq (g2 := F0 m 18 ls [.ref h5]) (by rw [show (3 : Int32).toNatClampNeg = 3 from rfl, e1_3]; rfl) ?_
      refine va_get (D := D) (ci := 6) (v := .int (so 3)) (C := RX9) (T := TX9) (N := 6) hx hb hts in_X12_placeFault_X9 hown hE.1 hP 5 rfl rfl 0 (by decide +kernel) (hts (.fieldLink RX12 277 "ClauseBook$Sheet" "sort" "I") (List.mem_of_getElem? (i := 2) rfl)) (fun _ h9 => h9) e5_0 dX12_placeFault_18 ?_
      refine lv_iconst (v := (-1)) hx hb dX12_placeFault_21 (by decide +kernel) ?_
      refine lv_icmp_ne (tgt := 28) hx hb dX12_placeFault_22 (by decide +kernel) (fun c_12 => ?_) (fun c_12 => ?_)
      · rw [fa_eq] at c_12
        try rw [ti_n1] at c_12
        refine lv_iload_n hx hb dX12_placeFault_28 rfl (lv_at hl 2 rfl) ?_
        refine lv_iconst (v := 0) hx hb dX12_placeFault_29 (by decide +kernel) ?_
        refine lv_aload_n hx hb dX12_placeFault_30 rfl (lv_at hl 0 rfl) ?_
        refine va_get (D := D) (ci := 9) (v := .ref h1) (C := RX12) (T := TX12) (N := 11) hx hb hts in_X12_placeFault_X12 hown hE.1 hP 0 rfl rfl 9 (by decide +kernel) (hts (.fieldLink RX12 65 "ClauseBook" "sheets" "[LClauseBook$Sheet;") (List.mem_of_getElem? (i := 1) rfl)) (fun _ h9 => h9) e0_9 dX12_placeFault_31 ?_
        refine lv_iload_n hx hb dX12_placeFault_34 rfl (lv_at hl 1 rfl) ?_
        refine va_aldq hx hb hE.1 hP 1 6 rfl rfl (by unfold vp_in; decide) dX12_placeFault_35 ?_
        refine W.eq (g2 := F0 m 36 ls [.ref h5, .int 0, .int x2]) (by rw [show (3 : Int32).toNatClampNeg = 3 from rfl, e1_3]; rfl) ?_
        refine va_get (D := D) (ci := 6) (v := .int (sn 3)) (C := RX9) (T := TX9) (N := 6) hx hb hts in_X12_placeFault_X9 hown hE.1 hP 5 rfl rfl 1 (by decide +kernel) (hts (.fieldLink RX12 280 "ClauseBook$Sheet" "size" "I") (List.mem_of_getElem? (i := 3) rfl)) (fun _ h9 => h9) e5_1 dX12_placeFault_36 ?_
        refine lv_iconst (v := 1) hx hb dX12_placeFault_39 (by decide +kernel) ?_
        refine lv_isub hx hb dX12_placeFault_40 ?_
        refine vp_callSi (W.runS (As := [.int x2, .int 0, .int ((sn 3) - 1)]) (rest := []) ⟨hx, hb, hml, hown, hts⟩ (c_X12_within l D T x2 0 ((sn 3) - 1) 0 (((sn 3) - 1)).toInt (by decide +kernel) rfl) (va_cwS 3 hts gX12_placeFault_X12_within rfl rfl rfl hs_X12_within ⟨Nat.le_of_ble_eq_true rfl, Nat.le_of_ble_eq_true rfl⟩) (pR_S hP hE [] rfl) rfl rfl hl.1 rfl (lv_room (Nat.le_of_ble_eq_true rfl)) dX12_placeFault_41 ⟨Nat.le_of_ble_eq_true rfl, Nat.le_of_ble_eq_true rfl⟩) (fun r_13 hr_13 => ?_)
        rcases bool_post hr_13 with ⟨c_14, rfl⟩ | ⟨c_14, rfl⟩
        · refine lv_if_eq (tgt := 51) hx hb dX12_placeFault_44 (by decide +kernel) (fun c9 => absurd c9 (by decide +kernel)) (fun _ => ?_)
          refine lv_iconst (v := 0) hx hb dX12_placeFault_47 (by decide +kernel) ?_
          refine lv_goto (tgt := 53) hx hb dX12_placeFault_48 (by decide +kernel) ?_
          exact W.iret hx hb hr (fun t ht hW => ⟨_, rfl, ⟨(fun _ => by omega), (by (try dsimp only); have h9a1 : (so ((3 : Int32).toNatClampNeg)).toInt = (so 3).toInt := rfl; have h9b1 : (sn ((3 : Int32).toNatClampNeg)).toInt = (sn 3).toInt := rfl; have h9c1 : (3 : Int32).toInt = 3 := (by decide +kernel); have h9r : (0 : Int32).toInt = 0 := (by decide +kernel); omega)⟩, ht⟩) (fun _ h => by cases h) dX12_placeFault_53
        · refine lv_if_eq (tgt := 51) hx hb dX12_placeFault_44 (by decide +kernel) (fun _ => ?_) (fun c9 => absurd c9 (by decide +kernel))
          refine lv_bipush (v := (-12)) hx hb dX12_placeFault_51 (by decide +kernel) ?_
          exact W.iret hx hb hr (fun t ht hW => ⟨_, rfl, ⟨(fun h9 => absurd h9 (by decide +kernel)), (by (try dsimp only); have h9a1 : (so ((3 : Int32).toNatClampNeg)).toInt = (so 3).toInt := rfl; have h9b1 : (sn ((3 : Int32).toNatClampNeg)).toInt = (sn 3).toInt := rfl; have h9c1 : (3 : Int32).toInt = 3 := (by decide +kernel); have h9r : ((-12) : Int32).toInt = -12 := (by decide +kernel); omega)⟩, ht⟩) (fun _ h => by cases h) dX12_placeFault_53
      · rw [fa_eq] at c_12
        try rw [ti_n1] at c_12
        refine lv_bipush (v := (-11)) hx hb dX12_placeFault_25 (by decide +kernel) ?_
        exact W.iret hx hb hr (fun t ht hW => ⟨_, rfl, ⟨(fun h9 => absurd h9 (by decide +kernel)), (by (try dsimp only); have h9a1 : (so ((3 : Int32).toNatClampNeg)).toInt = (so 3).toInt := rfl; have h9b1 : (sn ((3 : Int32).toNatClampNeg)).toInt = (sn 3).toInt := rfl; have h9c1 : (3 : Int32).toInt = 3 := (by decide +kernel); have h9r : ((-11) : Int32).toInt = -11 := (by decide +kernel); omega)⟩, ht⟩) (fun _ h => by cases h) dX12_placeFault_27
  · refine lv_if_ne (tgt := 12) hx hb dX12_placeFault_6 (by decide +kernel) (fun c9 => absurd c9 (by decide +kernel)) (fun _ => ?_)
    refine lv_bipush (v := (-2)) hx hb dX12_placeFault_9 (by decide +kernel) ?_
    exact W.iret hx hb hr (fun t ht hW => ⟨_, rfl, ⟨(fun h9 => absurd h9 (by decide +kernel)), (by (try dsimp only); have h9r : ((-2) : Int32).toInt = -2 := (by decide +kernel); omega)⟩, ht⟩) (fun _ h => by cases h) dX12_placeFault_11
theorem dX12_cell_0 : decode cX12_cell 0 = .ok (.aload_n 0, 1) := by decide +kernel
theorem dX12_cell_1 : decode cX12_cell 1 = .ok (.iload_n 1, 1) := by decide +kernel
theorem dX12_cell_10 : decode cX12_cell 10 = .ok (.ifCond .eq 6, 3) := by decide +kernel
theorem dX12_cell_13 : decode cX12_cell 13 = .ok (.iload 5, 2) := by decide +kernel
theorem dX12_cell_15 : decode cX12_cell 15 = .ok (.ireturn, 1) := by decide +kernel
theorem dX12_cell_16 : decode cX12_cell 16 = .ok (.aload_n 0, 1) := by decide +kernel
theorem dX12_cell_17 : decode cX12_cell 17 = .ok (.getfield 65, 3) := by decide +kernel
theorem dX12_cell_2 : decode cX12_cell 2 = .ok (.iload_n 2, 1) := by decide +kernel
theorem dX12_cell_20 : decode cX12_cell 20 = .ok (.iload_n 1, 1) := by decide +kernel
theorem dX12_cell_21 : decode cX12_cell 21 = .ok (.aaload, 1) := by decide +kernel
theorem dX12_cell_22 : decode cX12_cell 22 = .ok (.iload_n 2, 1) := by decide +kernel
theorem dX12_cell_23 : decode cX12_cell 23 = .ok (.lload_n 3, 1) := by decide +kernel
theorem dX12_cell_24 : decode cX12_cell 24 = .ok (.invokevirtual 281, 3) := by decide +kernel
theorem dX12_cell_27 : decode cX12_cell 27 = .ok (.ifCond .eq 7, 3) := by decide +kernel
theorem dX12_cell_3 : decode cX12_cell 3 = .ok (.invokevirtual 321, 3) := by decide +kernel
theorem dX12_cell_30 : decode cX12_cell 30 = .ok (.iconst 1, 1) := by decide +kernel
theorem dX12_cell_31 : decode cX12_cell 31 = .ok (.goto 5, 3) := by decide +kernel
theorem dX12_cell_34 : decode cX12_cell 34 = .ok (.bipush (-5), 2) := by decide +kernel
theorem dX12_cell_36 : decode cX12_cell 36 = .ok (.ireturn, 1) := by decide +kernel
theorem dX12_cell_6 : decode cX12_cell 6 = .ok (.istore 5, 2) := by decide +kernel
theorem dX12_cell_8 : decode cX12_cell 8 = .ok (.iload 5, 2) := by decide +kernel
set_option maxRecDepth 20000 in
theorem ggX12_cell_X12_placeFault : GoodIn wsX12_cell wsX12_placeFault := goodIn_r _ [6, 1, 7, 8, 9, 10, 5, 11, 22, 23, 24, 25, 26, 27, 28, 29, 30, 31, 32, 33, 34, 35, 36, 37, 38] rfl (by decide +kernel)
set_option maxRecDepth 20000 in
theorem ggX12_cell_X9_store : GoodIn wsX12_cell wsX9_store := goodIn_r _ [16, 17, 18, 19, 20, 21, 33, 34, 35, 36, 37, 38] rfl (by decide +kernel)
set_option maxRecDepth 20000 in
theorem gX12_cell_X12_placeFault : GoodIn wsX12_cell (wsV RX12 321 RX12 yX12_placeFault wsX12_placeFault) := goodIn_app (goodIn_r _ [2, 3, 4, 5] rfl (by decide +kernel)) ggX12_cell_X12_placeFault
set_option maxRecDepth 20000 in
theorem gX12_cell_X9_store : GoodIn wsX12_cell (wsV RX12 281 RX9 yX9_store wsX9_store) := goodIn_app (goodIn_r _ [12, 13, 14, 15] rfl (by decide +kernel)) ggX12_cell_X9_store
theorem hv_X12_placeFault : yX12_placeFault.cls = RX12 ∧ yX12_placeFault.cls ≠ "java/lang/invoke/MethodHandle" ∧ yX12_placeFault.cls ≠ "java/lang/invoke/VarHandle" ∧ (parseMethodDescriptor yX12_placeFault.desc).map (fun d => d.parameters.length) = some 2 := by decide +kernel
set_option maxRecDepth 20000 in
theorem in_X12_cell_X12 : ∀ w ∈ wsX120, w ∈ wsX12_cell := sub_r [22, 23, 24, 25, 26, 27, 28, 29, 30, 31, 32] rfl
set_option maxHeartbeats 4000000 in
set_option maxRecDepth 100000 in
theorem c_X12_cell (l : Launch) (D : va_G) (T : Nat → ClassId) (sz : Nat) (h0 : Nat) (h1 : Nat) (fs0 : List Value) (t0 : Nat) (t1 : Nat) (t2 : Nat) (t3 : Nat) (a00 : Nat) (a01 : Nat) (a02 : Nat) (a03 : Nat) (a10 : Nat) (a11 : Nat) (a12 : Nat) (a13 : Nat) (a20 : Nat) (a21 : Nat) (a22 : Nat) (a23 : Nat) (a30 : Nat) (a31 : Nat) (a32 : Nat) (a33 : Nat) (so : Nat → Int32) (sn : Nat → Int32) (si : Nat → Nat → Int32) (sl : Nat → Nat → Int64) (sf : Nat → Nat → UInt32) (sd : Nat → Nat → UInt64) (x1 : Int32) (x2 : Int32) (x3 : Int64) (e0_9 : fs0[9]? = some (.ref h1)) (hs0 : (-1 ≤ (so 0).toInt ∧ (so 0).toInt ≤ 3) ∧ 0 ≤ (sn 0).toInt ∧ (sn 0).toInt ≤ 30) (hs1 : (-1 ≤ (so 1).toInt ∧ (so 1).toInt ≤ 3) ∧ 0 ≤ (sn 1).toInt ∧ (sn 1).toInt ≤ 30) (hs2 : (-1 ≤ (so 2).toInt ∧ (so 2).toInt ≤ 3) ∧ 0 ≤ (sn 2).toInt ∧ (sn 2).toInt ≤ 30) (hs3 : (-1 ≤ (so 3).toInt ∧ (so 3).toInt ≤ 3) ∧ 0 ≤ (sn 3).toInt ∧ (sn 3).toInt ≤ 30) : Met l yX12_cell wsX12_cell ({ frames := 2, cells := 0, slots := 0, locals := 44 }) (pW [.ref h0, .int x1, .int x2, .long x3] D T [(h0, .inr (9, fs0)), (h1, .inl (T 6, 4, .inr (.inr (.inr (.inr (va_up (va_up (va_up (va_up (fun _ => none) 0 (some t0)) 1 (some t1)) 2 (some t2)) 3 (some t3))))))), (t0, .inr (6, [.int (so 0), .int (sn 0), .ref a00, .ref a01, .ref a02, .ref a03])), (t1, .inr (6, [.int (so 1), .int (sn 1), .ref a10, .ref a11, .ref a12, .ref a13])), (t2, .inr (6, [.int (so 2), .int (sn 2), .ref a20, .ref a21, .ref a22, .ref a23])), (t3, .inr (6, [.int (so 3), .int (sn 3), .ref a30, .ref a31, .ref a32, .ref a33])), (a00, .inl (T 0, 30, .inl (si 0))), (a01, .inl (T 1, 30, .inr (.inl (sl 0)))), (a02, .inl (T 2, 30, .inr (.inr (.inl (sf 0))))), (a03, .inl (T 3, 30, .inr (.inr (.inr (.inl (sd 0)))))), (a10, .inl (T 0, 30, .inl (si 1))), (a11, .inl (T 1, 30, .inr (.inl (sl 1)))), (a12, .inl (T 2, 30, .inr (.inr (.inl (sf 1))))), (a13, .inl (T 3, 30, .inr (.inr (.inr (.inl (sd 1)))))), (a20, .inl (T 0, 30, .inl (si 2))), (a21, .inl (T 1, 30, .inr (.inl (sl 2)))), (a22, .inl (T 2, 30, .inr (.inr (.inl (sf 2))))), (a23, .inl (T 3, 30, .inr (.inr (.inr (.inl (sd 2)))))), (a30, .inl (T 0, 30, .inl (si 3))), (a31, .inl (T 1, 30, .inr (.inl (sl 3)))), (a32, .inl (T 2, 30, .inr (.inr (.inl (sf 3))))), (a33, .inl (T 3, 30, .inr (.inr (.inr (.inl (sd 3))))))] sz) (va_Qi (fun (r : Int32) (u : (Nat → Nat → Int32) × (Nat → Nat → Int64) × (Nat → Nat → UInt32) × (Nat → Nat → UInt64)) => (¬ (0 ≤ x1.toInt ∧ x1.toInt ≤ 3) → r.toInt = -2) ∧ ((0 ≤ x1.toInt ∧ x1.toInt ≤ 3) → ((so (x1.toNatClampNeg)).toInt = -1 → r.toInt = -11) ∧ (¬ (so (x1.toNatClampNeg)).toInt = -1 → ((0 ≤ x2.toInt ∧ x2.toInt < (sn (x1.toNatClampNeg)).toInt) → ((so (x1.toNatClampNeg)).toInt = 0 ∧ ¬ x3.toInt = x3.toInt32.toInt → r.toInt = -5) ∧ (¬ ((so (x1.toNatClampNeg)).toInt = 0 ∧ ¬ x3.toInt = x3.toInt32.toInt) → r.toInt = 1)) ∧ (¬ (0 ≤ x2.toInt ∧ x2.toInt < (sn (x1.toNatClampNeg)).toInt) → r.toInt = -12)))) (bW D (va_A [(h0, .inr (9, fs0)), (h1, .inl (T 6, 4, .inr (.inr (.inr (.inr (va_up (va_up (va_up (va_up (fun _ => none) 0 (some t0)) 1 (some t1)) 2 (some t2)) 3 (some t3))))))), (t0, .inr (6, [.int (so 0), .int (sn 0), .ref a00, .ref a01, .ref a02, .ref a03])), (t1, .inr (6, [.int (so 1), .int (sn 1), .ref a10, .ref a11, .ref a12, .ref a13])), (t2, .inr (6, [.int (so 2), .int (sn 2), .ref a20, .ref a21, .ref a22, .ref a23])), (t3, .inr (6, [.int (so 3), .int (sn 3), .ref a30, .ref a31, .ref a32, .ref a33])), (a00, .inl (T 0, 30, .inl (si 0))), (a01, .inl (T 1, 30, .inr (.inl (sl 0)))), (a02, .inl (T 2, 30, .inr (.inr (.inl (sf 0))))), (a03, .inl (T 3, 30, .inr (.inr (.inr (.inl (sd 0)))))), (a10, .inl (T 0, 30, .inl (si 1))), (a11, .inl (T 1, 30, .inr (.inl (sl 1)))), (a12, .inl (T 2, 30, .inr (.inr (.inl (sf 1))))), (a13, .inl (T 3, 30, .inr (.inr (.inr (.inl (sd 1)))))), (a20, .inl (T 0, 30, .inl (si 2))), (a21, .inl (T 1, 30, .inr (.inl (sl 2)))), (a22, .inl (T 2, 30, .inr (.inr (.inl (sf 2))))), (a23, .inl (T 3, 30, .inr (.inr (.inr (.inl (sd 2)))))), (a30, .inl (T 0, 30, .inl (si 3))), (a31, .inl (T 1, 30, .inr (.inl (sl 3)))), (a32, .inl (T 2, 30, .inr (.inr (.inl (sf 3))))), (a33, .inl (T 3, 30, .inr (.inr (.inr (.inl (sd 3))))))] sz) (fun (u : (Nat → Nat → Int32) × (Nat → Nat → Int64) × (Nat → Nat → UInt32) × (Nat → Nat → UInt64)) => [(h0, .inr (9, fs0)), (h1, .inl (T 6, 4, .inr (.inr (.inr (.inr (va_up (va_up (va_up (va_up (fun _ => none) 0 (some t0)) 1 (some t1)) 2 (some t2)) 3 (some t3))))))), (t0, .inr (6, [.int (so 0), .int (sn 0), .ref a00, .ref a01, .ref a02, .ref a03])), (t1, .inr (6, [.int (so 1), .int (sn 1), .ref a10, .ref a11, .ref a12, .ref a13])), (t2, .inr (6, [.int (so 2), .int (sn 2), .ref a20, .ref a21, .ref a22, .ref a23])), (t3, .inr (6, [.int (so 3), .int (sn 3), .ref a30, .ref a31, .ref a32, .ref a33])), (a00, .inl (T 0, 30, .inl (u.1 0))), (a01, .inl (T 1, 30, .inr (.inl (u.2.1 0)))), (a02, .inl (T 2, 30, .inr (.inr (.inl (u.2.2.1 0))))), (a03, .inl (T 3, 30, .inr (.inr (.inr (.inl (u.2.2.2 0)))))), (a10, .inl (T 0, 30, .inl (u.1 1))), (a11, .inl (T 1, 30, .inr (.inl (u.2.1 1)))), (a12, .inl (T 2, 30, .inr (.inr (.inl (u.2.2.1 1))))), (a13, .inl (T 3, 30, .inr (.inr (.inr (.inl (u.2.2.2 1)))))), (a20, .inl (T 0, 30, .inl (u.1 2))), (a21, .inl (T 1, 30, .inr (.inl (u.2.1 2)))), (a22, .inl (T 2, 30, .inr (.inr (.inl (u.2.2.1 2))))), (a23, .inl (T 3, 30, .inr (.inr (.inr (.inl (u.2.2.2 2)))))), (a30, .inl (T 0, 30, .inl (u.1 3))), (a31, .inl (T 1, 30, .inr (.inl (u.2.1 3)))), (a32, .inl (T 2, 30, .inr (.inr (.inl (u.2.2.1 3))))), (a33, .inl (T 3, 30, .inr (.inr (.inr (.inl (u.2.2.2 3))))))])) (va_A [(h0, .inr (9, fs0)), (h1, .inl (T 6, 4, .inr (.inr (.inr (.inr (va_up (va_up (va_up (va_up (fun _ => none) 0 (some t0)) 1 (some t1)) 2 (some t2)) 3 (some t3))))))), (t0, .inr (6, [.int (so 0), .int (sn 0), .ref a00, .ref a01, .ref a02, .ref a03])), (t1, .inr (6, [.int (so 1), .int (sn 1), .ref a10, .ref a11, .ref a12, .ref a13])), (t2, .inr (6, [.int (so 2), .int (sn 2), .ref a20, .ref a21, .ref a22, .ref a23])), (t3, .inr (6, [.int (so 3), .int (sn 3), .ref a30, .ref a31, .ref a32, .ref a33])), (a00, .inl (T 0, 30, .inl (si 0))), (a01, .inl (T 1, 30, .inr (.inl (sl 0)))), (a02, .inl (T 2, 30, .inr (.inr (.inl (sf 0))))), (a03, .inl (T 3, 30, .inr (.inr (.inr (.inl (sd 0)))))), (a10, .inl (T 0, 30, .inl (si 1))), (a11, .inl (T 1, 30, .inr (.inl (sl 1)))), (a12, .inl (T 2, 30, .inr (.inr (.inl (sf 1))))), (a13, .inl (T 3, 30, .inr (.inr (.inr (.inl (sd 1)))))), (a20, .inl (T 0, 30, .inl (si 2))), (a21, .inl (T 1, 30, .inr (.inl (sl 2)))), (a22, .inl (T 2, 30, .inr (.inr (.inl (sf 2))))), (a23, .inl (T 3, 30, .inr (.inr (.inr (.inl (sd 2)))))), (a30, .inl (T 0, 30, .inl (si 3))), (a31, .inl (T 1, 30, .inr (.inl (sl 3)))), (a32, .inl (T 2, 30, .inr (.inr (.inl (sf 3))))), (a33, .inl (T 3, 30, .inr (.inr (.inr (.inl (sd 3))))))] sz)) 0 0 (va_A [(h0, .inr (9, fs0)), (h1, .inl (T 6, 4, .inr (.inr (.inr (.inr (va_up (va_up (va_up (va_up (fun _ => none) 0 (some t0)) 1 (some t1)) 2 (some t2)) 3 (some t3))))))), (t0, .inr (6, [.int (so 0), .int (sn 0), .ref a00, .ref a01, .ref a02, .ref a03])), (t1, .inr (6, [.int (so 1), .int (sn 1), .ref a10, .ref a11, .ref a12, .ref a13])), (t2, .inr (6, [.int (so 2), .int (sn 2), .ref a20, .ref a21, .ref a22, .ref a23])), (t3, .inr (6, [.int (so 3), .int (sn 3), .ref a30, .ref a31, .ref a32, .ref a33])), (a00, .inl (T 0, 30, .inl (si 0))), (a01, .inl (T 1, 30, .inr (.inl (sl 0)))), (a02, .inl (T 2, 30, .inr (.inr (.inl (sf 0))))), (a03, .inl (T 3, 30, .inr (.inr (.inr (.inl (sd 0)))))), (a10, .inl (T 0, 30, .inl (si 1))), (a11, .inl (T 1, 30, .inr (.inl (sl 1)))), (a12, .inl (T 2, 30, .inr (.inr (.inl (sf 1))))), (a13, .inl (T 3, 30, .inr (.inr (.inr (.inl (sd 1)))))), (a20, .inl (T 0, 30, .inl (si 2))), (a21, .inl (T 1, 30, .inr (.inl (sl 2)))), (a22, .inl (T 2, 30, .inr (.inr (.inl (sf 2))))), (a23, .inl (T 3, 30, .inr (.inr (.inr (.inl (sd 2)))))), (a30, .inl (T 0, 30, .inl (si 3))), (a31, .inl (T 1, 30, .inr (.inl (sl 3)))), (a32, .inl (T 2, 30, .inr (.inr (.inl (sf 3))))), (a33, .inl (T 3, 30, .inr (.inr (.inr (.inl (sd 3))))))] sz) := by
  refine Met.ofW (cc := cX12_cell) (maxL := 6) (ret := (some .int)) (by decide +kernel) rfl ?_
  intro p e s m args below meth c s₁ B hml hv
  obtain ⟨rfl, hsz, hP, hE, hD0⟩ := hv
  have hx := B.exec
  have hb := B.bytes
  have hr := B.returns
  have hts := atoms_spec (ws := wsX12_cell) B.pre
  have hown : s.vm.findClass RX12 = some m.cls := findClass_of_methodNamed B.named
  have hlocks := B.notSynchronized
  subst hsz
  have hD := hD0.self (sz := s.heap.size)
  generalize hAe : va_A [(h0, .inr (9, fs0)), (h1, .inl (T 6, 4, .inr (.inr (.inr (.inr (va_up (va_up (va_up (va_up (fun _ => none) 0 (some t0)) 1 (some t1)) 2 (some t2)) 3 (some t3))))))), (t0, .inr (6, [.int (so 0), .int (sn 0), .ref a00, .ref a01, .ref a02, .ref a03])), (t1, .inr (6, [.int (so 1), .int (sn 1), .ref a10, .ref a11, .ref a12, .ref a13])), (t2, .inr (6, [.int (so 2), .int (sn 2), .ref a20, .ref a21, .ref a22, .ref a23])), (t3, .inr (6, [.int (so 3), .int (sn 3), .ref a30, .ref a31, .ref a32, .ref a33])), (a00, .inl (T 0, 30, .inl (si 0))), (a01, .inl (T 1, 30, .inr (.inl (sl 0)))), (a02, .inl (T 2, 30, .inr (.inr (.inl (sf 0))))), (a03, .inl (T 3, 30, .inr (.inr (.inr (.inl (sd 0)))))), (a10, .inl (T 0, 30, .inl (si 1))), (a11, .inl (T 1, 30, .inr (.inl (sl 1)))), (a12, .inl (T 2, 30, .inr (.inr (.inl (sf 1))))), (a13, .inl (T 3, 30, .inr (.inr (.inr (.inl (sd 1)))))), (a20, .inl (T 0, 30, .inl (si 2))), (a21, .inl (T 1, 30, .inr (.inl (sl 2)))), (a22, .inl (T 2, 30, .inr (.inr (.inl (sf 2))))), (a23, .inl (T 3, 30, .inr (.inr (.inr (.inl (sd 2)))))), (a30, .inl (T 0, 30, .inl (si 3))), (a31, .inl (T 1, 30, .inr (.inl (sl 3)))), (a32, .inl (T 2, 30, .inr (.inr (.inl (sf 3))))), (a33, .inl (T 3, 30, .inr (.inr (.inr (.inl (sd 3))))))] s.heap.size = A at hD ⊢
  have hA : ∀ q : Nat, s.heap.size ≤ q → A q := fun q h => by rw [← hAe]; exact Or.inr h
  have hS : va_S A s.heap s.heap [] := va_S.rf
  have hP : va_P D vwCl [(h0, .inr (9, fs0)), (h1, .inl (T 6, 4, .inr (.inr (.inr (.inr (va_up (va_up (va_up (va_up (fun _ => none) 0 (some t0)) 1 (some t1)) 2 (some t2)) 3 (some t3))))))), (t0, .inr (6, [.int (so 0), .int (sn 0), .ref a00, .ref a01, .ref a02, .ref a03])), (t1, .inr (6, [.int (so 1), .int (sn 1), .ref a10, .ref a11, .ref a12, .ref a13])), (t2, .inr (6, [.int (so 2), .int (sn 2), .ref a20, .ref a21, .ref a22, .ref a23])), (t3, .inr (6, [.int (so 3), .int (sn 3), .ref a30, .ref a31, .ref a32, .ref a33])), (a00, .inl (T 0, 30, .inl (si 0))), (a01, .inl (T 1, 30, .inr (.inl (sl 0)))), (a02, .inl (T 2, 30, .inr (.inr (.inl (sf 0))))), (a03, .inl (T 3, 30, .inr (.inr (.inr (.inl (sd 0)))))), (a10, .inl (T 0, 30, .inl (si 1))), (a11, .inl (T 1, 30, .inr (.inl (sl 1)))), (a12, .inl (T 2, 30, .inr (.inr (.inl (sf 1))))), (a13, .inl (T 3, 30, .inr (.inr (.inr (.inl (sd 1)))))), (a20, .inl (T 0, 30, .inl (si 2))), (a21, .inl (T 1, 30, .inr (.inl (sl 2)))), (a22, .inl (T 2, 30, .inr (.inr (.inl (sf 2))))), (a23, .inl (T 3, 30, .inr (.inr (.inr (.inl (sd 2)))))), (a30, .inl (T 0, 30, .inl (si 3))), (a31, .inl (T 1, 30, .inr (.inl (sl 3)))), (a32, .inl (T 2, 30, .inr (.inr (.inl (sf 3))))), (a33, .inl (T 3, 30, .inr (.inr (.inr (.inl (sd 3))))))] s.heap := hP
  have hl := lv_entry ([.ref h0, .int x1, .int x2, .long x3]) (n := 6) (Nat.le_of_ble_eq_true rfl)
  rw [lg_entry_eq]
  generalize (lg_sl ([.ref h0, .int x1, .int x2, .long x3]) ++ List.replicate (6 - (lg_sl ([.ref h0, .int x1, .int x2, .long x3])).length) Slot.unset).toArray = ls at hl ⊢
  have hl : lv_has ls 6 [(0, .ref h0), (1, .int x1), (2, .int x2), (3, .long x3)] := hl
  clear hD0
  refine lv_aload_n hx hb dX12_cell_0 rfl (lv_at hl 0 rfl) ?_
  refine lv_iload_n hx hb dX12_cell_1 rfl (lv_at hl 1 rfl) ?_
  refine lv_iload_n hx hb dX12_cell_2 rfl (lv_at hl 2 rfl) ?_
  refine vp_callSi (W.runV (As := [.int x1, .int x2]) (rest := []) ⟨hx, hb, hml, hown, hts⟩ (c_X12_placeFault l D T h0 fs0 h1 (va_up (va_up (va_up (va_up (fun _ => none) 0 (some t0)) 1 (some t1)) 2 (some t2)) 3 (some t3)) t0 [.int (so 0), .int (sn 0), .ref a00, .ref a01, .ref a02, .ref a03] t1 [.int (so 1), .int (sn 1), .ref a10, .ref a11, .ref a12, .ref a13] t2 [.int (so 2), .int (sn 2), .ref a20, .ref a21, .ref a22, .ref a23] t3 [.int (so 3), .int (sn 3), .ref a30, .ref a31, .ref a32, .ref a33] x1 x2 so sn e0_9 rfl rfl rfl rfl rfl rfl rfl rfl rfl rfl rfl rfl (by omega) (by omega) (by omega) (by omega)) (cwV 2 hts gX12_cell_X12_placeFault rfl rfl rfl hv_X12_placeFault ⟨Nat.le_of_ble_eq_true rfl, Nat.le_of_ble_eq_true rfl⟩) (pR_V (q := (RX12, TX12, 11)) (ci := 9) (q0 := 0) hP hE rfl rfl [0, 1, 2, 3, 4, 5] rfl) rfl rfl hl.1 rfl (lv_room (Nat.le_of_ble_eq_true rfl)) dX12_cell_3 ⟨Nat.le_of_ble_eq_true rfl, Nat.le_of_ble_eq_true rfl⟩) (fun r_1 hr_1 => ?_)
  refine lv_istore (lv' := [(5, .int r_1), (0, .ref h0), (1, .int x1), (2, .int x2), (3, .long x3)]) hx hb dX12_cell_6 hl (by decide +kernel) rfl (fun ls hl => ?_)
  refine lv_iload hx hb dX12_cell_8 (lv_at hl 0 rfl) ?_
  refine lv_if_eq (tgt := 16) hx hb dX12_cell_10 (by decide +kernel) (fun c_2 => ?_) (fun c_2 => ?_)
  · rw [fa_eq] at c_2
    try rw [ti_0] at c_2
    refine lv_aload_n hx hb dX12_cell_16 rfl (lv_at hl 1 rfl) ?_
    refine va_get (D := D) (ci := 9) (v := .ref h1) (C := RX12) (T := TX12) (N := 11) hx hb hts in_X12_cell_X12 hown hE.1 hP 0 rfl rfl 9 (by decide +kernel) (hts (.fieldLink RX12 65 "ClauseBook" "sheets" "[LClauseBook$Sheet;") (List.mem_of_getElem? (i := 1) rfl)) (fun _ h9 => h9) e0_9 dX12_cell_17 ?_
    refine lv_iload_n hx hb dX12_cell_20 rfl (lv_at hl 2 rfl) ?_
    have h9f : (0 ≤ x1.toInt ∧ x1.toInt ≤ 3) ∧ 0 ≤ x2.toInt ∧ x2.toInt < 30 := hr_1.1 (by omega)
    rcases in4 (x := x1) (by omega) with rfl | rfl | rfl | rfl
    · have h9t := ti_0
      refine va_aldq hx hb hE.1 hP 1 6 rfl rfl (by unfold vp_in; decide) dX12_cell_21 ?_
      refine W.eq (g2 := F0 m 22 ls [.ref t0]) rfl ?_
      refine lv_iload_n hx hb dX12_cell_22 rfl (lv_at hl 3 rfl) ?_
      refine lv_lload_n hx hb dX12_cell_23 rfl (lv_at hl 4 rfl) ?_
      have hFc := va_free (wc := [(t0, .inr (6, [.int (so 0), .int (sn 0), .ref a00, .ref a01, .ref a02, .ref a03])), (a00, .inl (T 0, 30, .inl (si 0))), (a01, .inl (T 1, 30, .inr (.inl (sl 0)))), (a02, .inl (T 2, 30, .inr (.inr (.inl (sf 0))))), (a03, .inl (T 3, 30, .inr (.inr (.inr (.inl (sd 0))))))]) hD hS hA [2, 6, 7, 8, 9] rfl
      refine va_calli (va_runV (As := [.int x2, .long x3]) (rest := []) ⟨hx, hb, hml, hown, hts⟩ (c_X9_store l D T _ t0 (so 0) (sn 0) a00 a01 a02 a03 (si 0) (sl 0) (sf 0) (sd 0) x2 x3 (by rw [vp_in_iff]; omega)) (cwV 2 hts gX12_cell_X9_store rfl rfl rfl hv_X9_store ⟨Nat.le_of_ble_eq_true rfl, Nat.le_of_ble_eq_true rfl⟩) (pW_V (q := (RX9, TX9, 6)) (ci := 6) (q0 := 2) hP hE hD rfl rfl [2, 6, 7, 8, 9] (by decide +kernel) rfl rfl) rfl rfl hl.1 rfl (lv_room (Nat.le_of_ble_eq_true rfl)) dX12_cell_24 ⟨Nat.le_of_ble_eq_true rfl, Nat.le_of_ble_eq_true rfl⟩) hS (fun q _ h => hFc q h) hFc (fun r_3 u_4 t H1 locs ht hvm hr_3 hB hz1 hk1 hS => ?_)
      obtain ⟨f_5, f_6, f_7, f_8⟩ := u_4
      obtain ⟨hP1, hD1⟩ := hB
      rw [ht] at hP1
      obtain ⟨hP, hD⟩ := va_repl [(h0, .inr (9, fs0)), (h1, .inl (T 6, 4, .inr (.inr (.inr (.inr (va_up (va_up (va_up (va_up (fun _ => none) 0 (some t0)) 1 (some t1)) 2 (some t2)) 3 (some t3))))))), (t0, .inr (6, [.int (so 0), .int (sn 0), .ref a00, .ref a01, .ref a02, .ref a03])), (t1, .inr (6, [.int (so 1), .int (sn 1), .ref a10, .ref a11, .ref a12, .ref a13])), (t2, .inr (6, [.int (so 2), .int (sn 2), .ref a20, .ref a21, .ref a22, .ref a23])), (t3, .inr (6, [.int (so 3), .int (sn 3), .ref a30, .ref a31, .ref a32, .ref a33])), (a00, .inl (T 0, 30, .inl f_5)), (a01, .inl (T 1, 30, .inr (.inl f_6))), (a02, .inl (T 2, 30, .inr (.inr (.inl f_7)))), (a03, .inl (T 3, 30, .inr (.inr (.inr (.inl f_8))))), (a10, .inl (T 0, 30, .inl (si 1))), (a11, .inl (T 1, 30, .inr (.inl (sl 1)))), (a12, .inl (T 2, 30, .inr (.inr (.inl (sf 1))))), (a13, .inl (T 3, 30, .inr (.inr (.inr (.inl (sd 1)))))), (a20, .inl (T 0, 30, .inl (si 2))), (a21, .inl (T 1, 30, .inr (.inl (sl 2)))), (a22, .inl (T 2, 30, .inr (.inr (.inl (sf 2))))), (a23, .inl (T 3, 30, .inr (.inr (.inr (.inl (sd 2)))))), (a30, .inl (T 0, 30, .inl (si 3))), (a31, .inl (T 1, 30, .inr (.inl (sl 3)))), (a32, .inl (T 2, 30, .inr (.inr (.inl (sf 3))))), (a33, .inl (T 3, 30, .inr (.inr (.inr (.inl (sd 3))))))] hP hD [2, 6, 7, 8, 9] [2, 6, 7, 8, 9] rfl (by decide +kernel) rfl rfl rfl hk1 hP1
      clear hP1 hD1 hFc
      generalize H1 = H at hP hS ⊢
      refine lv_if_eq (tgt := 34) hx hb dX12_cell_27 (by decide +kernel) (fun c_9 => ?_) (fun c_9 => ?_)
      · rw [fa_eq] at c_9
        try rw [ti_0] at c_9
        refine lv_bipush (v := (-5)) hx hb dX12_cell_34 (by decide +kernel) ?_
        exact W.iret hx hb hr (fun t ht hW => ⟨⟨_, ((fun k => [f_5, (si 1), (si 2), (si 3)].getD k f_5), (fun k => [f_6, (sl 1), (sl 2), (sl 3)].getD k f_6), (fun k => [f_7, (sf 1), (sf 2), (sf 3)].getD k f_7), (fun k => [f_8, (sd 1), (sd 2), (sd 3)].getD k f_8)), rfl, (by (try dsimp only); have h9a1 : (so ((0 : Int32).toNatClampNeg)).toInt = (so 0).toInt := rfl; have h9b1 : (sn ((0 : Int32).toNatClampNeg)).toInt = (sn 0).toInt := rfl; have h9c1 : (0 : Int32).toInt = 0 := (by decide +kernel); have h9r : ((-5) : Int32).toInt = -5 := (by decide +kernel); omega), by rw [ht]; exact hP.sub [0, 1, 2, 3, 4, 5, 6, 7, 8, 9, 10, 11, 12, 13, 14, 15, 16, 17, 18, 19, 20, 21] rfl, hD.sub [0, 1, 2, 3, 4, 5, 6, 7, 8, 9, 10, 11, 12, 13, 14, 15, 16, 17, 18, 19, 20, 21] (by decide +kernel) rfl⟩, hS.F ht⟩) hS.2.2 dX12_cell_36
      · rw [fa_eq] at c_9
        try rw [ti_0] at c_9
        refine lv_iconst (v := 1) hx hb dX12_cell_30 (by decide +kernel) ?_
        refine lv_goto (tgt := 36) hx hb dX12_cell_31 (by decide +kernel) ?_
        exact W.iret hx hb hr (fun t ht hW => ⟨⟨_, ((fun k => [f_5, (si 1), (si 2), (si 3)].getD k f_5), (fun k => [f_6, (sl 1), (sl 2), (sl 3)].getD k f_6), (fun k => [f_7, (sf 1), (sf 2), (sf 3)].getD k f_7), (fun k => [f_8, (sd 1), (sd 2), (sd 3)].getD k f_8)), rfl, (by (try dsimp only); have h9a1 : (so ((0 : Int32).toNatClampNeg)).toInt = (so 0).toInt := rfl; have h9b1 : (sn ((0 : Int32).toNatClampNeg)).toInt = (sn 0).toInt := rfl; have h9c1 : (0 : Int32).toInt = 0 := (by decide +kernel); have h9r : (1 : Int32).toInt = 1 := (by decide +kernel); omega), by rw [ht]; exact hP.sub [0, 1, 2, 3, 4, 5, 6, 7, 8, 9, 10, 11, 12, 13, 14, 15, 16, 17, 18, 19, 20, 21] rfl, hD.sub [0, 1, 2, 3, 4, 5, 6, 7, 8, 9, 10, 11, 12, 13, 14, 15, 16, 17, 18, 19, 20, 21] (by decide +kernel) rfl⟩, hS.F ht⟩) hS.2.2 dX12_cell_36
    · have h9t := ti_1
      refine va_aldq hx hb hE.1 hP 1 6 rfl rfl (by unfold vp_in; decide) dX12_cell_21 ?_
      refine W.eq (g2 := F0 m 22 ls [.ref t1]) rfl ?_
      refine lv_iload_n hx hb dX12_cell_22 rfl (lv_at hl 3 rfl) ?_
      refine lv_lload_n hx hb dX12_cell_23 rfl (lv_at hl 4 rfl) ?_
      have hFc := va_free (wc := [(t1, .inr (6, [.int (so 1), .int (sn 1), .ref a10, .ref a11, .ref a12, .ref a13])), (a10, .inl (T 0, 30, .inl (si 1))), (a11, .inl (T 1, 30, .inr (.inl (sl 1)))), (a12, .inl (T 2, 30, .inr (.inr (.inl (sf 1))))), (a13, .inl (T 3, 30, .inr (.inr (.inr (.inl (sd 1))))))]) hD hS hA [3, 10, 11, 12, 13] rfl
      refine va_calli (va_runV (As := [.int x2, .long x3]) (rest := []) ⟨hx, hb, hml, hown, hts⟩ (c_X9_store l D T _ t1 (so 1) (sn 1) a10 a11 a12 a13 (si 1) (sl 1) (sf 1) (sd 1) x2 x3 (by rw [vp_in_iff]; omega)) (cwV 2 hts gX12_cell_X9_store rfl rfl rfl hv_X9_store ⟨Nat.le_of_ble_eq_true rfl, Nat.le_of_ble_eq_true rfl⟩) (pW_V (q := (RX9, TX9, 6)) (ci := 6) (q0 := 3) hP hE hD rfl rfl [3, 10, 11, 12, 13] (by decide +kernel) rfl rfl) rfl rfl hl.1 rfl (lv_room (Nat.le_of_ble_eq_true rfl)) dX12_cell_24 ⟨Nat.le_of_ble_eq_true rfl, Nat.le_of_ble_eq_true rfl⟩) hS (fun q _ h => hFc q h) hFc (fun r_10 u_11 t H1 locs ht hvm hr_10 hB hz1 hk1 hS => ?_)
      obtain ⟨f_12, f_13, f_14, f_15⟩ := u_11
      obtain ⟨hP1, hD1⟩ := hB
      rw [ht] at hP1
      obtain ⟨hP, hD⟩ := va_repl [(h0, .inr (9, fs0)), (h1, .inl (T 6, 4, .inr (.inr (.inr (.inr (va_up (va_up (va_up (va_up (fun _ => none) 0 (some t0)) 1 (some t1)) 2 (some t2)) 3 (some t3))))))), (t0, .inr (6, [.int (so 0), .int (sn 0), .ref a00, .ref a01, .ref a02, .ref a03])), (t1, .inr (6, [.int (so 1), .int (sn 1), .ref a10, .ref a11, .ref a12, .ref a13])), (t2, .inr (6, [.int (so 2), .int (sn 2), .ref a20, .ref a21, .ref a22, .ref a23])), (t3, .inr (6, [.int (so 3), .int (sn 3), .ref a30, .ref a31, .ref a32, .ref a33])), (a00, .inl (T 0, 30, .inl (si 0))), (a01, .inl (T 1, 30, .inr (.inl (sl 0)))), (a02, .inl (T 2, 30, .inr (.inr (.inl (sf 0))))), (a03, .inl (T 3, 30, .inr (.inr (.inr (.inl (sd 0)))))), (a10, .inl (T 0, 30, .inl f_12)), (a11, .inl (T 1, 30, .inr (.inl f_13))), (a12, .inl (T 2, 30, .inr (.inr (.inl f_14)))), (a13, .inl (T 3, 30, .inr (.inr (.inr (.inl f_15))))), (a20, .inl (T 0, 30, .inl (si 2))), (a21, .inl (T 1, 30, .inr (.inl (sl 2)))), (a22, .inl (T 2, 30, .inr (.inr (.inl (sf 2))))), (a23, .inl (T 3, 30, .inr (.inr (.inr (.inl (sd 2)))))), (a30, .inl (T 0, 30, .inl (si 3))), (a31, .inl (T 1, 30, .inr (.inl (sl 3)))), (a32, .inl (T 2, 30, .inr (.inr (.inl (sf 3))))), (a33, .inl (T 3, 30, .inr (.inr (.inr (.inl (sd 3))))))] hP hD [3, 10, 11, 12, 13] [3, 10, 11, 12, 13] rfl (by decide +kernel) rfl rfl rfl hk1 hP1
      clear hP1 hD1 hFc
      generalize H1 = H at hP hS ⊢
      refine lv_if_eq (tgt := 34) hx hb dX12_cell_27 (by decide +kernel) (fun c_16 => ?_) (fun c_16 => ?_)
      · rw [fa_eq] at c_16
        try rw [ti_0] at c_16
        refine lv_bipush (v := (-5)) hx hb dX12_cell_34 (by decide +kernel) ?_
        exact W.iret hx hb hr (fun t ht hW => ⟨⟨_, ((fun k => [(si 0), f_12, (si 2), (si 3)].getD k (si 0)), (fun k => [(sl 0), f_13, (sl 2), (sl 3)].getD k (sl 0)), (fun k => [(sf 0), f_14, (sf 2), (sf 3)].getD k (sf 0)), (fun k => [(sd 0), f_15, (sd 2), (sd 3)].getD k (sd 0))), rfl, (by (try dsimp only); have h9a1 : (so ((1 : Int32).toNatClampNeg)).toInt = (so 1).toInt := rfl; have h9b1 : (sn ((1 : Int32).toNatClampNeg)).toInt = (sn 1).toInt := rfl; have h9c1 : (1 : Int32).toInt = 1 := (by decide +kernel); have h9r : ((-5) : Int32).toInt = -5 := (by decide +kernel); omega), by rw [ht]; exact hP.sub [0, 1, 2, 3, 4, 5, 6, 7, 8, 9, 10, 11, 12, 13, 14, 15, 16, 17, 18, 19, 20, 21] rfl, hD.sub [0, 1, 2, 3, 4, 5, 6, 7, 8, 9, 10, 11, 12, 13, 14, 15, 16, 17, 18, 19, 20, 21] (by decide +kernel) rfl⟩, hS.F ht⟩) hS.2.2 dX12_cell_36
      · rw [fa_eq] at c_16
        try rw [ti_0] at c_16
        refine lv_iconst (v := 1) hx hb dX12_cell_30 (by decide +kernel) ?_
        refine lv_goto (tgt := 36) hx hb dX12_cell_31 (by decide +kernel) ?_
        exact W.iret hx hb hr (fun t ht hW => ⟨⟨_, ((fun k => [(si 0), f_12, (si 2), (si 3)].getD k (si 0)), (fun k => [(sl 0), f_13, (sl 2), (sl 3)].getD k (sl 0)), (fun k => [(sf 0), f_14, (sf 2), (sf 3)].getD k (sf 0)), (fun k => [(sd 0), f_15, (sd 2), (sd 3)].getD k (sd 0))), rfl, (by (try dsimp only); have h9a1 : (so ((1 : Int32).toNatClampNeg)).toInt = (so 1).toInt := rfl; have h9b1 : (sn ((1 : Int32).toNatClampNeg)).toInt = (sn 1).toInt := rfl; have h9c1 : (1 : Int32).toInt = 1 := (by decide +kernel); have h9r : (1 : Int32).toInt = 1 := (by decide +kernel); omega), by rw [ht]; exact hP.sub [0, 1, 2, 3, 4, 5, 6, 7, 8, 9, 10, 11, 12, 13, 14, 15, 16, 17, 18, 19, 20, 21] rfl, hD.sub [0, 1, 2, 3, 4, 5, 6, 7, 8, 9, 10, 11, 12, 13, 14, 15, 16, 17, 18, 19, 20, 21] (by decide +kernel) rfl⟩, hS.F ht⟩) hS.2.2 dX12_cell_36
    · have h9t := ti_2
      refine va_aldq hx hb hE.1 hP 1 6 rfl rfl (by unfold vp_in; decide) dX12_cell_21 ?_
      refine W.eq (g2 := F0 m 22 ls [.ref t2]) rfl ?_
      refine lv_iload_n hx hb dX12_cell_22 rfl (lv_at hl 3 rfl) ?_
      refine lv_lload_n hx hb dX12_cell_23 rfl (lv_at hl 4 rfl) ?_
      have hFc := va_free (wc := [(t2, .inr (6, [.int (so 2), .int (sn 2), .ref a20, .ref a21, .ref a22, .ref a23])), (a20, .inl (T 0, 30, .inl (si 2))), (a21, .inl (T 1, 30, .inr (.inl (sl 2)))), (a22, .inl (T 2, 30, .inr (.inr (.inl (sf 2))))), (a23, .inl (T 3, 30, .inr (.inr (.inr (.inl (sd 2))))))]) hD hS hA [4, 14, 15, 16, 17] rfl
      refine va_calli (va_runV (As := [.int x2, .long x3]) (rest := []) ⟨hx, hb, hml, hown, hts⟩ (c_X9_store l D T _ t2 (so 2) (sn 2) a20 a21 a22 a23 (si 2) (sl 2) (sf 2) (sd 2) x2 x3 (by rw [vp_in_iff]; omega)) (cwV 2 hts gX12_cell_X9_store rfl rfl rfl hv_X9_store ⟨Nat.le_of_ble_eq_true rfl, Nat.le_of_ble_eq_true rfl⟩) (pW_V (q := (RX9, TX9, 6)) (ci := 6) (q0 := 4) hP hE hD rfl rfl [4, 14, 15, 16, 17] (by decide +kernel) rfl rfl) rfl rfl hl.1 rfl (lv_room (Nat.le_of_ble_eq_true rfl)) dX12_cell_24 ⟨Nat.le_of_ble_eq_true rfl, Nat.le_of_ble_eq_true rfl⟩) hS (fun q _ h => hFc q h) hFc (fun r_17 u_18 t H1 locs ht hvm hr_17 hB hz1 hk1 hS => ?_)
      obtain ⟨f_19, f_20, f_21, f_22⟩ := u_18
      obtain ⟨hP1, hD1⟩ := hB
      rw [ht] at hP1
      obtain ⟨hP, hD⟩ := va_repl [(h0, .inr (9, fs0)), (h1, .inl (T 6, 4, .inr (.inr (.inr (.inr (va_up (va_up (va_up (va_up (fun _ => none) 0 (some t0)) 1 (some t1)) 2 (some t2)) 3 (some t3))))))), (t0, .inr (6, [.int (so 0), .int (sn 0), .ref a00, .ref a01, .ref a02, .ref a03])), (t1, .inr (6, [.int (so 1), .int (sn 1), .ref a10, .ref a11, .ref a12, .ref a13])), (t2, .inr (6, [.int (so 2), .int (sn 2), .ref a20, .ref a21, .ref a22, .ref a23])), (t3, .inr (6, [.int (so 3), .int (sn 3), .ref a30, .ref a31, .ref a32, .ref a33])), (a00, .inl (T 0, 30, .inl (si 0))), (a01, .inl (T 1, 30, .inr (.inl (sl 0)))), (a02, .inl (T 2, 30, .inr (.inr (.inl (sf 0))))), (a03, .inl (T 3, 30, .inr (.inr (.inr (.inl (sd 0)))))), (a10, .inl (T 0, 30, .inl (si 1))), (a11, .inl (T 1, 30, .inr (.inl (sl 1)))), (a12, .inl (T 2, 30, .inr (.inr (.inl (sf 1))))), (a13, .inl (T 3, 30, .inr (.inr (.inr (.inl (sd 1)))))), (a20, .inl (T 0, 30, .inl f_19)), (a21, .inl (T 1, 30, .inr (.inl f_20))), (a22, .inl (T 2, 30, .inr (.inr (.inl f_21)))), (a23, .inl (T 3, 30, .inr (.inr (.inr (.inl f_22))))), (a30, .inl (T 0, 30, .inl (si 3))), (a31, .inl (T 1, 30, .inr (.inl (sl 3)))), (a32, .inl (T 2, 30, .inr (.inr (.inl (sf 3))))), (a33, .inl (T 3, 30, .inr (.inr (.inr (.inl (sd 3))))))] hP hD [4, 14, 15, 16, 17] [4, 14, 15, 16, 17] rfl (by decide +kernel) rfl rfl rfl hk1 hP1
      clear hP1 hD1 hFc
      generalize H1 = H at hP hS ⊢
      refine lv_if_eq (tgt := 34) hx hb dX12_cell_27 (by decide +kernel) (fun c_23 => ?_) (fun c_23 => ?_)
      · rw [fa_eq] at c_23
        try rw [ti_0] at c_23
        refine lv_bipush (v := (-5)) hx hb dX12_cell_34 (by decide +kernel) ?_
        exact W.iret hx hb hr (fun t ht hW => ⟨⟨_, ((fun k => [(si 0), (si 1), f_19, (si 3)].getD k (si 0)), (fun k => [(sl 0), (sl 1), f_20, (sl 3)].getD k (sl 0)), (fun k => [(sf 0), (sf 1), f_21, (sf 3)].getD k (sf 0)), (fun k => [(sd 0), (sd 1), f_22, (sd 3)].getD k (sd 0))), rfl, (by (try dsimp only); have h9a1 : (so ((2 : Int32).toNatClampNeg)).toInt = (so 2).toInt := rfl; have h9b1 : (sn ((2 : Int32).toNatClampNeg)).toInt = (sn 2).toInt := rfl; have h9c1 : (2 : Int32).toInt = 2 := (by decide +kernel); have h9r : ((-5) : Int32).toInt = -5 := (by decide +kernel); omega), by rw [ht]; exact hP.sub [0, 1, 2, 3, 4, 5, 6, 7, 8, 9, 10, 11, 12, 13, 14, 15, 16, 17, 18, 19, 20, 21] rfl, hD.sub [0, 1, 2, 3, 4, 5, 6, 7, 8, 9, 10, 11, 12, 13, 14, 15, 16, 17, 18, 19, 20, 21] (by decide +kernel) rfl⟩, hS.F ht⟩) hS.2.2 dX12_cell_36
      · rw [fa_eq] at c_23
        try rw [ti_0] at c_23
        refine lv_iconst (v := 1) hx hb dX12_cell_30 (by decide +kernel) ?_
        refine lv_goto (tgt := 36) hx hb dX12_cell_31 (by decide +kernel) ?_
        exact W.iret hx hb hr (fun t ht hW => ⟨⟨_, ((fun k => [(si 0), (si 1), f_19, (si 3)].getD k (si 0)), (fun k => [(sl 0), (sl 1), f_20, (sl 3)].getD k (sl 0)), (fun k => [(sf 0), (sf 1), f_21, (sf 3)].getD k (sf 0)), (fun k => [(sd 0), (sd 1), f_22, (sd 3)].getD k (sd 0))), rfl, (by (try dsimp only); have h9a1 : (so ((2 : Int32).toNatClampNeg)).toInt = (so 2).toInt := rfl; have h9b1 : (sn ((2 : Int32).toNatClampNeg)).toInt = (sn 2).toInt := rfl; have h9c1 : (2 : Int32).toInt = 2 := (by decide +kernel); have h9r : (1 : Int32).toInt = 1 := (by decide +kernel); omega), by rw [ht]; exact hP.sub [0, 1, 2, 3, 4, 5, 6, 7, 8, 9, 10, 11, 12, 13, 14, 15, 16, 17, 18, 19, 20, 21] rfl, hD.sub [0, 1, 2, 3, 4, 5, 6, 7, 8, 9, 10, 11, 12, 13, 14, 15, 16, 17, 18, 19, 20, 21] (by decide +kernel) rfl⟩, hS.F ht⟩) hS.2.2 dX12_cell_36
    · have h9t := ti_3
      refine va_aldq hx hb hE.1 hP 1 6 rfl rfl (by unfold vp_in; decide) dX12_cell_21 ?_
      refine W.eq (g2 := F0 m 22 ls [.ref t3]) rfl ?_
      refine lv_iload_n hx hb dX12_cell_22 rfl (lv_at hl 3 rfl) ?_
      refine lv_lload_n hx hb dX12_cell_23 rfl (lv_at hl 4 rfl) ?_
      have hFc := va_free (wc := [(t3, .inr (6, [.int (so 3), .int (sn 3), .ref a30, .ref a31, .ref a32, .ref a33])), (a30, .inl (T 0, 30, .inl (si 3))), (a31, .inl (T 1, 30, .inr (.inl (sl 3)))), (a32, .inl (T 2, 30, .inr (.inr (.inl (sf 3))))), (a33, .inl (T 3, 30, .inr (.inr (.inr (.inl (sd 3))))))]) hD hS hA [5, 18, 19, 20, 21] rfl
      refine va_calli (va_runV (As := [.int x2, .long x3]) (rest := []) ⟨hx, hb, hml, hown, hts⟩ (c_X9_store l D T _ t3 (so 3) (sn 3) a30 a31 a32 a33 (si 3) (sl 3) (sf 3) (sd 3) x2 x3 (by rw [vp_in_iff]; omega)) (cwV 2 hts gX12_cell_X9_store rfl rfl rfl hv_X9_store ⟨Nat.le_of_ble_eq_true rfl, Nat.le_of_ble_eq_true rfl⟩) (pW_V (q := (RX9, TX9, 6)) (ci := 6) (q0 := 5) hP hE hD rfl rfl [5, 18, 19, 20, 21] (by decide +kernel) rfl rfl) rfl rfl hl.1 rfl (lv_room (Nat.le_of_ble_eq_true rfl)) dX12_cell_24 ⟨Nat.le_of_ble_eq_true rfl, Nat.le_of_ble_eq_true rfl⟩) hS (fun q _ h => hFc q h) hFc (fun r_24 u_25 t H1 locs ht hvm hr_24 hB hz1 hk1 hS => ?_)
      obtain ⟨f_26, f_27, f_28, f_29⟩ := u_25
      obtain ⟨hP1, hD1⟩ := hB
      rw [ht] at hP1
      obtain ⟨hP, hD⟩ := va_repl [(h0, .inr (9, fs0)), (h1, .inl (T 6, 4, .inr (.inr (.inr (.inr (va_up (va_up (va_up (va_up (fun _ => none) 0 (some t0)) 1 (some t1)) 2 (some t2)) 3 (some t3))))))), (t0, .inr (6, [.int (so 0), .int (sn 0), .ref a00, .ref a01, .ref a02, .ref a03])), (t1, .inr (6, [.int (so 1), .int (sn 1), .ref a10, .ref a11, .ref a12, .ref a13])), (t2, .inr (6, [.int (so 2), .int (sn 2), .ref a20, .ref a21, .ref a22, .ref a23])), (t3, .inr (6, [.int (so 3), .int (sn 3), .ref a30, .ref a31, .ref a32, .ref a33])), (a00, .inl (T 0, 30, .inl (si 0))), (a01, .inl (T 1, 30, .inr (.inl (sl 0)))), (a02, .inl (T 2, 30, .inr (.inr (.inl (sf 0))))), (a03, .inl (T 3, 30, .inr (.inr (.inr (.inl (sd 0)))))), (a10, .inl (T 0, 30, .inl (si 1))), (a11, .inl (T 1, 30, .inr (.inl (sl 1)))), (a12, .inl (T 2, 30, .inr (.inr (.inl (sf 1))))), (a13, .inl (T 3, 30, .inr (.inr (.inr (.inl (sd 1)))))), (a20, .inl (T 0, 30, .inl (si 2))), (a21, .inl (T 1, 30, .inr (.inl (sl 2)))), (a22, .inl (T 2, 30, .inr (.inr (.inl (sf 2))))), (a23, .inl (T 3, 30, .inr (.inr (.inr (.inl (sd 2)))))), (a30, .inl (T 0, 30, .inl f_26)), (a31, .inl (T 1, 30, .inr (.inl f_27))), (a32, .inl (T 2, 30, .inr (.inr (.inl f_28)))), (a33, .inl (T 3, 30, .inr (.inr (.inr (.inl f_29)))))] hP hD [5, 18, 19, 20, 21] [5, 18, 19, 20, 21] rfl (by decide +kernel) rfl rfl rfl hk1 hP1
      clear hP1 hD1 hFc
      generalize H1 = H at hP hS ⊢
      refine lv_if_eq (tgt := 34) hx hb dX12_cell_27 (by decide +kernel) (fun c_30 => ?_) (fun c_30 => ?_)
      · rw [fa_eq] at c_30
        try rw [ti_0] at c_30
        refine lv_bipush (v := (-5)) hx hb dX12_cell_34 (by decide +kernel) ?_
        exact W.iret hx hb hr (fun t ht hW => ⟨⟨_, ((fun k => [(si 0), (si 1), (si 2), f_26].getD k (si 0)), (fun k => [(sl 0), (sl 1), (sl 2), f_27].getD k (sl 0)), (fun k => [(sf 0), (sf 1), (sf 2), f_28].getD k (sf 0)), (fun k => [(sd 0), (sd 1), (sd 2), f_29].getD k (sd 0))), rfl, (by (try dsimp only); have h9a1 : (so ((3 : Int32).toNatClampNeg)).toInt = (so 3).toInt := rfl; have h9b1 : (sn ((3 : Int32).toNatClampNeg)).toInt = (sn 3).toInt := rfl; have h9c1 : (3 : Int32).toInt = 3 := (by decide +kernel); have h9r : ((-5) : Int32).toInt = -5 := (by decide +kernel); omega), by rw [ht]; exact hP.sub [0, 1, 2, 3, 4, 5, 6, 7, 8, 9, 10, 11, 12, 13, 14, 15, 16, 17, 18, 19, 20, 21] rfl, hD.sub [0, 1, 2, 3, 4, 5, 6, 7, 8, 9, 10, 11, 12, 13, 14, 15, 16, 17, 18, 19, 20, 21] (by decide +kernel) rfl⟩, hS.F ht⟩) hS.2.2 dX12_cell_36
      · rw [fa_eq] at c_30
        try rw [ti_0] at c_30
        refine lv_iconst (v := 1) hx hb dX12_cell_30 (by decide +kernel) ?_
        refine lv_goto (tgt := 36) hx hb dX12_cell_31 (by decide +kernel) ?_
        exact W.iret hx hb hr (fun t ht hW => ⟨⟨_, ((fun k => [(si 0), (si 1), (si 2), f_26].getD k (si 0)), (fun k => [(sl 0), (sl 1), (sl 2), f_27].getD k (sl 0)), (fun k => [(sf 0), (sf 1), (sf 2), f_28].getD k (sf 0)), (fun k => [(sd 0), (sd 1), (sd 2), f_29].getD k (sd 0))), rfl, (by (try dsimp only); have h9a1 : (so ((3 : Int32).toNatClampNeg)).toInt = (so 3).toInt := rfl; have h9b1 : (sn ((3 : Int32).toNatClampNeg)).toInt = (sn 3).toInt := rfl; have h9c1 : (3 : Int32).toInt = 3 := (by decide +kernel); have h9r : (1 : Int32).toInt = 1 := (by decide +kernel); omega), by rw [ht]; exact hP.sub [0, 1, 2, 3, 4, 5, 6, 7, 8, 9, 10, 11, 12, 13, 14, 15, 16, 17, 18, 19, 20, 21] rfl, hD.sub [0, 1, 2, 3, 4, 5, 6, 7, 8, 9, 10, 11, 12, 13, 14, 15, 16, 17, 18, 19, 20, 21] (by decide +kernel) rfl⟩, hS.F ht⟩) hS.2.2 dX12_cell_36
  · rw [fa_eq] at c_2
    try rw [ti_0] at c_2
    refine lv_iload hx hb dX12_cell_13 (lv_at hl 0 rfl) ?_
    exact W.iret hx hb hr (fun t ht hW => ⟨⟨_, ((fun k => [(si 0), (si 1), (si 2), (si 3)].getD k (si 0)), (fun k => [(sl 0), (sl 1), (sl 2), (sl 3)].getD k (sl 0)), (fun k => [(sf 0), (sf 1), (sf 2), (sf 3)].getD k (sf 0)), (fun k => [(sd 0), (sd 1), (sd 2), (sd 3)].getD k (sd 0))), rfl, (by (try dsimp only); omega), by rw [ht]; exact hP.sub [0, 1, 2, 3, 4, 5, 6, 7, 8, 9, 10, 11, 12, 13, 14, 15, 16, 17, 18, 19, 20, 21] rfl, hD.sub [0, 1, 2, 3, 4, 5, 6, 7, 8, 9, 10, 11, 12, 13, 14, 15, 16, 17, 18, 19, 20, 21] (by decide +kernel) rfl⟩, hS.F ht⟩) hS.2.2 dX12_cell_15
