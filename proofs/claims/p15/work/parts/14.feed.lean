theorem dX12_bagOf_0 : decode cX12_bagOf 0 = .ok (.iload_n 1, 1) := by decide +kernel
theorem dX12_bagOf_1 : decode cX12_bagOf 1 = .ok (.invokestatic 300, 3) := by decide +kernel
theorem dX12_bagOf_10 : decode cX12_bagOf 10 = .ok (.iload_n 2, 1) := by decide +kernel
theorem dX12_bagOf_11 : decode cX12_bagOf 11 = .ok (.iconst 0, 1) := by decide +kernel
theorem dX12_bagOf_12 : decode cX12_bagOf 12 = .ok (.aload_n 0, 1) := by decide +kernel
theorem dX12_bagOf_13 : decode cX12_bagOf 13 = .ok (.getfield 37, 3) := by decide +kernel
theorem dX12_bagOf_16 : decode cX12_bagOf 16 = .ok (.iload_n 1, 1) := by decide +kernel
theorem dX12_bagOf_17 : decode cX12_bagOf 17 = .ok (.aaload, 1) := by decide +kernel
theorem dX12_bagOf_18 : decode cX12_bagOf 18 = .ok (.getfield 307, 3) := by decide +kernel
theorem dX12_bagOf_21 : decode cX12_bagOf 21 = .ok (.iconst 1, 1) := by decide +kernel
theorem dX12_bagOf_22 : decode cX12_bagOf 22 = .ok (.isub, 1) := by decide +kernel
theorem dX12_bagOf_23 : decode cX12_bagOf 23 = .ok (.invokestatic 77, 3) := by decide +kernel
theorem dX12_bagOf_26 : decode cX12_bagOf 26 = .ok (.ifCond .eq 17, 3) := by decide +kernel
theorem dX12_bagOf_29 : decode cX12_bagOf 29 = .ok (.aload_n 0, 1) := by decide +kernel
theorem dX12_bagOf_30 : decode cX12_bagOf 30 = .ok (.getfield 37, 3) := by decide +kernel
theorem dX12_bagOf_33 : decode cX12_bagOf 33 = .ok (.iload_n 1, 1) := by decide +kernel
theorem dX12_bagOf_34 : decode cX12_bagOf 34 = .ok (.aaload, 1) := by decide +kernel
theorem dX12_bagOf_35 : decode cX12_bagOf 35 = .ok (.getfield 308, 3) := by decide +kernel
theorem dX12_bagOf_38 : decode cX12_bagOf 38 = .ok (.iload_n 2, 1) := by decide +kernel
theorem dX12_bagOf_39 : decode cX12_bagOf 39 = .ok (.iaload, 1) := by decide +kernel
theorem dX12_bagOf_4 : decode cX12_bagOf 4 = .ok (.ifCond .ne 6, 3) := by decide +kernel
theorem dX12_bagOf_40 : decode cX12_bagOf 40 = .ok (.goto 5, 3) := by decide +kernel
theorem dX12_bagOf_43 : decode cX12_bagOf 43 = .ok (.bipush (-12), 2) := by decide +kernel
theorem dX12_bagOf_45 : decode cX12_bagOf 45 = .ok (.ireturn, 1) := by decide +kernel
theorem dX12_bagOf_7 : decode cX12_bagOf 7 = .ok (.bipush (-2), 2) := by decide +kernel
theorem dX12_bagOf_9 : decode cX12_bagOf 9 = .ok (.ireturn, 1) := by decide +kernel
set_option maxRecDepth 20000 in
theorem ggX12_bagOf_X12_isBag : GoodIn wsX12_bagOf wsX12_isBag := goodIn_r _ [7, 8, 9, 6, 10] rfl (by decide +kernel)
set_option maxRecDepth 20000 in
theorem ggX12_bagOf_X12_within : GoodIn wsX12_bagOf wsX12_within := goodIn_r _ [10] rfl (by decide +kernel)
set_option maxRecDepth 20000 in
theorem gX12_bagOf_X12_isBag : GoodIn wsX12_bagOf (va_wsS RX12 300 yX12_isBag wsX12_isBag) := goodIn_app (goodIn_of _ (by decide +kernel)) ggX12_bagOf_X12_isBag
set_option maxRecDepth 20000 in
theorem gX12_bagOf_X12_within : GoodIn wsX12_bagOf (va_wsS RX12 77 yX12_within wsX12_within) := goodIn_app (goodIn_of _ (by decide +kernel)) ggX12_bagOf_X12_within
set_option maxRecDepth 20000 in
theorem in_X12_bagOf_X1 : ∀ w ∈ wsX10, w ∈ wsX12_bagOf := sub_r [22, 23] rfl
set_option maxRecDepth 20000 in
theorem in_X12_bagOf_X12 : ∀ w ∈ wsX120, w ∈ wsX12_bagOf := sub_r [11, 12, 13, 14, 15, 16, 17, 18, 19, 20, 21] rfl
set_option maxHeartbeats 4000000 in
set_option maxRecDepth 100000 in
theorem c_X12_bagOf (l : Launch) (D : va_G) (T : Nat → ClassId) (h0 : Nat) (fs0 : List Value) (h1 : Nat) (f1 : Nat → Option Nat) (h2 : Nat) (fs2 : List Value) (h3 : Nat) (fs3 : List Value) (h4 : Nat) (fs4 : List Value) (h5 : Nat) (f5 : Nat → Int32) (h6 : Nat) (f6 : Nat → Int32) (h7 : Nat) (f7 : Nat → Int32) (x1 : Int32) (x2 : Int32) (n0 : Int32) (n1 : Int32) (n2 : Int32) (e0_5 : fs0[5]? = some (.ref h1)) (e1_0 : f1 0 = some h2) (e1_1 : f1 1 = some h3) (e1_2 : f1 2 = some h4) (e2_0 : fs2[0]? = some (.int n0)) (e2_1 : fs2[1]? = some (.ref h5)) (e3_0 : fs3[0]? = some (.int n1)) (e3_1 : fs3[1]? = some (.ref h6)) (e4_0 : fs4[0]? = some (.int n2)) (e4_1 : fs4[1]? = some (.ref h7)) (hb0 : 0 ≤ n0.toInt ∧ n0.toInt ≤ 12) (hb1 : 0 ≤ n1.toInt ∧ n1.toInt ≤ 12) (hb2 : 0 ≤ n2.toInt ∧ n2.toInt ≤ 12) : Met l yX12_bagOf wsX12_bagOf ({ frames := 2, cells := 0, slots := 0, locals := 42 }) (pR [.ref h0, .int x1, .int x2] D T [(h0, .inr (9, fs0)), (h1, .inl (T 5, 3, .inr (.inr (.inr (.inr f1))))), (h2, .inr (0, fs2)), (h3, .inr (0, fs3)), (h4, .inr (0, fs4)), (h5, .inl (T 0, 12, .inl f5)), (h6, .inl (T 0, 12, .inl f6)), (h7, .inl (T 0, 12, .inl f7))]) (vp_Si (fun r => bagOfC x1 x2 r (fun k => [n0, n1, n2].getD k 0) (fun k => [f5, f6, f7].getD k f5))) 0 0 (fun _ => False) := by
  refine Met.ofW (cc := cX12_bagOf) (maxL := 3) (ret := (some .int)) (by decide +kernel) rfl ?_
  intro p e s m args below meth c s₁ B hml hv
  obtain ⟨rfl, hP, hE⟩ := hv
  have hx := B.exec
  have hb := B.bytes
  have hr := B.returns
  have hts := atoms_spec (ws := wsX12_bagOf) B.pre
  have hown : s.vm.findClass RX12 = some m.cls := findClass_of_methodNamed B.named
  have hlocks := B.notSynchronized
  have hP : va_P D vwCl [(h0, .inr (9, fs0)), (h1, .inl (T 5, 3, .inr (.inr (.inr (.inr f1))))), (h2, .inr (0, fs2)), (h3, .inr (0, fs3)), (h4, .inr (0, fs4)), (h5, .inl (T 0, 12, .inl f5)), (h6, .inl (T 0, 12, .inl f6)), (h7, .inl (T 0, 12, .inl f7))] s.heap := hP
  have hl := lv_entry ([.ref h0, .int x1, .int x2]) (n := 3) (Nat.le_of_ble_eq_true rfl)
  rw [lg_entry_eq]
  generalize (lg_sl ([.ref h0, .int x1, .int x2]) ++ List.replicate (3 - (lg_sl ([.ref h0, .int x1, .int x2])).length) Slot.unset).toArray = ls at hl ⊢
  have hl : lv_has ls 3 [(0, .ref h0), (1, .int x1), (2, .int x2)] := hl
  have hd0 := dec1 (i := n0) (by omega)
  have hd1 := dec1 (i := n1) (by omega)
  have hd2 := dec1 (i := n2) (by omega)
  refine lv_iload_n hx hb dX12_bagOf_0 rfl (lv_at hl 1 rfl) ?_
  refine vp_callSi (W.runS (As := [.int x1]) (rest := []) ⟨hx, hb, hml, hown, hts⟩ (c_X12_isBag l D T x1) (va_cwS 1 hts gX12_bagOf_X12_isBag rfl rfl rfl hs_X12_isBag ⟨Nat.le_of_ble_eq_true rfl, Nat.le_of_ble_eq_true rfl⟩) (pR_S hP hE [] rfl) rfl rfl hl.1 rfl (lv_room (Nat.le_of_ble_eq_true rfl)) dX12_bagOf_1 ⟨Nat.le_of_ble_eq_true rfl, Nat.le_of_ble_eq_true rfl⟩) (fun r_1 hr_1 => ?_)
  rcases bool_post hr_1 with ⟨c_2, rfl⟩ | ⟨c_2, rfl⟩
  · refine lv_if_ne (tgt := 10) hx hb dX12_bagOf_4 (by decide +kernel) (fun _ => ?_) (fun c9 => absurd c9 (by decide +kernel))
    refine lv_iload_n hx hb dX12_bagOf_10 rfl (lv_at hl 2 rfl) ?_
    refine lv_iconst (v := 0) hx hb dX12_bagOf_11 (by decide +kernel) ?_
    refine lv_aload_n hx hb dX12_bagOf_12 rfl (lv_at hl 0 rfl) ?_
    refine va_get (D := D) (ci := 9) (v := .ref h1) (C := RX12) (T := TX12) (N := 11) hx hb hts in_X12_bagOf_X12 hown hE.1 hP 0 rfl rfl 5 (by decide +kernel) (hts (.fieldLink RX12 37 "ClauseBook" "bags" "[LClauseBook$Bag;") (List.mem_of_getElem? (i := 1) rfl)) (fun _ h9 => h9) e0_5 dX12_bagOf_13 ?_
    refine lv_iload_n hx hb dX12_bagOf_16 rfl (lv_at hl 1 rfl) ?_
    rcases in3 (x := x1) (by omega) with rfl | rfl | rfl
    · refine va_aldq hx hb hE.1 hP 1 5 rfl rfl (by unfold vp_in; decide) dX12_bagOf_17 ?_
      refine W.eq (g2 := F0 m 18 ls [.ref h2, .int 0, .int x2]) (by rw [show (0 : Int32).toNatClampNeg = 0 from rfl, e1_0]; rfl) ?_
      refine va_get (D := D) (ci := 0) (v := .int n0) (C := RX1) (T := TX1) (N := 2) hx hb hts in_X12_bagOf_X1 hown hE.1 hP 2 rfl rfl 0 (by decide +kernel) (hts (.fieldLink RX12 307 "ClauseBook$Bag" "size" "I") (List.mem_of_getElem? (i := 2) rfl)) (fun _ h9 => h9) e2_0 dX12_bagOf_18 ?_
      refine lv_iconst (v := 1) hx hb dX12_bagOf_21 (by decide +kernel) ?_
      refine lv_isub hx hb dX12_bagOf_22 ?_
      refine vp_callSi (W.runS (As := [.int x2, .int 0, .int (n0 - 1)]) (rest := []) ⟨hx, hb, hml, hown, hts⟩ (c_X12_within l D T x2 0 (n0 - 1) 0 ((n0 - 1)).toInt (by decide +kernel) rfl) (va_cwS 3 hts gX12_bagOf_X12_within rfl rfl rfl hs_X12_within ⟨Nat.le_of_ble_eq_true rfl, Nat.le_of_ble_eq_true rfl⟩) (pR_S hP hE [] rfl) rfl rfl hl.1 rfl (lv_room (Nat.le_of_ble_eq_true rfl)) dX12_bagOf_23 ⟨Nat.le_of_ble_eq_true rfl, Nat.le_of_ble_eq_true rfl⟩) (fun r_3 hr_3 => ?_)
      rcases bool_post hr_3 with ⟨c_4, rfl⟩ | ⟨c_4, rfl⟩
      · refine lv_if_eq (tgt := 43) hx hb dX12_bagOf_26 (by decide +kernel) (fun c9 => absurd c9 (by decide +kernel)) (fun _ => ?_)
        refine lv_aload_n hx hb dX12_bagOf_29 rfl (lv_at hl 0 rfl) ?_
        refine va_get (D := D) (ci := 9) (v := .ref h1) (C := RX12) (T := TX12) (N := 11) hx hb hts in_X12_bagOf_X12 hown hE.1 hP 0 rfl rfl 5 (by decide +kernel) (hts (.fieldLink RX12 37 "ClauseBook" "bags" "[LClauseBook$Bag;") (List.mem_of_getElem? (i := 1) rfl)) (fun _ h9 => h9) e0_5 dX12_bagOf_30 ?_
        refine lv_iload_n hx hb dX12_bagOf_33 rfl (lv_at hl 1 rfl) ?_
        refine va_aldq hx hb hE.1 hP 1 5 rfl rfl (by unfold vp_in; decide) dX12_bagOf_34 ?_
        refine W.eq (g2 := F0 m 35 ls [.ref h2]) (by rw [show (0 : Int32).toNatClampNeg = 0 from rfl, e1_0]; rfl) ?_
        refine va_get (D := D) (ci := 0) (v := .ref h5) (C := RX1) (T := TX1) (N := 2) hx hb hts in_X12_bagOf_X1 hown hE.1 hP 2 rfl rfl 1 (by decide +kernel) (hts (.fieldLink RX12 308 "ClauseBook$Bag" "numbers" "[I") (List.mem_of_getElem? (i := 3) rfl)) (fun _ h9 => h9) e2_1 dX12_bagOf_35 ?_
        refine lv_iload_n hx hb dX12_bagOf_38 rfl (lv_at hl 2 rfl) ?_
        refine va_iald hx hb hE.1 hP 5 0 rfl rfl (by rw [vp_in_iff]; first | omega | (subst_vars; rw [dec1 (by omega)]; omega) | (subst_vars; rw [inc1 (n := 1000) (by omega) (by decide +kernel)]; omega)) dX12_bagOf_39 ?_
        refine lv_topi (fun z_5 ez_5 => ?_)
        refine lv_goto (tgt := 45) hx hb dX12_bagOf_40 (by decide +kernel) ?_
        exact W.iret hx hb hr (fun t ht hW => ⟨_, rfl, (Or.inr (Or.inr ⟨⟨by decide, by decide⟩, (show 0 ≤ x2.toInt ∧ x2.toInt < n0.toInt from by omega), ez_5⟩)), ht⟩) (fun _ h => by cases h) dX12_bagOf_45
      · refine lv_if_eq (tgt := 43) hx hb dX12_bagOf_26 (by decide +kernel) (fun _ => ?_) (fun c9 => absurd c9 (by decide +kernel))
        refine lv_bipush (v := (-12)) hx hb dX12_bagOf_43 (by decide +kernel) ?_
        exact W.iret hx hb hr (fun t ht hW => ⟨_, rfl, (Or.inr (Or.inl ⟨⟨by decide, by decide⟩, (show ¬ (0 ≤ x2.toInt ∧ x2.toInt < n0.toInt) from by omega), (by decide +kernel)⟩)), ht⟩) (fun _ h => by cases h) dX12_bagOf_45
    · refine va_aldq hx hb hE.1 hP 1 5 rfl rfl (by unfold vp_in; decide) dX12_bagOf_17 ?_
      refine W.eq (g2 := F0 m 18 ls [.ref h3, .int 0, .int x2]) (by rw [show (1 : Int32).toNatClampNeg = 1 from rfl, e1_1]; rfl) ?_
      refine va_get (D := D) (ci := 0) (v := .int n1) (C := RX1) (T := TX1) (N := 2) hx hb hts in_X12_bagOf_X1 hown hE.1 hP 3 rfl rfl 0 (by decide +kernel) (hts (.fieldLink RX12 307 "ClauseBook$Bag" "size" "I") (List.mem_of_getElem? (i := 2) rfl)) (fun _ h9 => h9) e3_0 dX12_bagOf_18 ?_
      refine lv_iconst (v := 1) hx hb dX12_bagOf_21 (by decide +kernel) ?_
      refine lv_isub hx hb dX12_bagOf_22 ?_
      refine vp_callSi (W.runS (As := [.int x2, .int 0, .int (n1 - 1)]) (rest := []) ⟨hx, hb, hml, hown, hts⟩ (c_X12_within l D T x2 0 (n1 - 1) 0 ((n1 - 1)).toInt (by decide +kernel) rfl) (va_cwS 3 hts gX12_bagOf_X12_within rfl rfl rfl hs_X12_within ⟨Nat.le_of_ble_eq_true rfl, Nat.le_of_ble_eq_true rfl⟩) (pR_S hP hE [] rfl) rfl rfl hl.1 rfl (lv_room (Nat.le_of_ble_eq_true rfl)) dX12_bagOf_23 ⟨Nat.le_of_ble_eq_true rfl, Nat.le_of_ble_eq_true rfl⟩) (fun r_6 hr_6 => ?_)
      rcases bool_post hr_6 with ⟨c_7, rfl⟩ | ⟨c_7, rfl⟩
      · refine lv_if_eq (tgt := 43) hx hb dX12_bagOf_26 (by decide +kernel) (fun c9 => absurd c9 (by decide +kernel)) (fun _ => ?_)
        refine lv_aload_n hx hb dX12_bagOf_29 rfl (lv_at hl 0 rfl) ?_
        refine va_get (D := D) (ci := 9) (v := .ref h1) (C := RX12) (T := TX12) (N := 11) hx hb hts in_X12_bagOf_X12 hown hE.1 hP 0 rfl rfl 5 (by decide +kernel) (hts (.fieldLink RX12 37 "ClauseBook" "bags" "[LClauseBook$Bag;") (List.mem_of_getElem? (i := 1) rfl)) (fun _ h9 => h9) e0_5 dX12_bagOf_30 ?_
        refine lv_iload_n hx hb dX12_bagOf_33 rfl (lv_at hl 1 rfl) ?_
        refine va_aldq hx hb hE.1 hP 1 5 rfl rfl (by unfold vp_in; decide) dX12_bagOf_34 ?_
        refine W.eq (g2 := F0 m 35 ls [.ref h3]) (by rw [show (1 : Int32).toNatClampNeg = 1 from rfl, e1_1]; rfl) ?_
        refine va_get (D := D) (ci := 0) (v := .ref h6) (C := RX1) (T := TX1) (N := 2) hx hb hts in_X12_bagOf_X1 hown hE.1 hP 3 rfl rfl 1 (by decide +kernel) (hts (.fieldLink RX12 308 "ClauseBook$Bag" "numbers" "[I") (List.mem_of_getElem? (i := 3) rfl)) (fun _ h9 => h9) e3_1 dX12_bagOf_35 ?_
        refine lv_iload_n hx hb dX12_bagOf_38 rfl (lv_at hl 2 rfl) ?_
        refine va_iald hx hb hE.1 hP 6 0 rfl rfl (by rw [vp_in_iff]; first | omega | (subst_vars; rw [dec1 (by omega)]; omega) | (subst_vars; rw [inc1 (n := 1000) (by omega) (by decide +kernel)]; omega)) dX12_bagOf_39 ?_
        refine lv_topi (fun z_8 ez_8 => ?_)
        refine lv_goto (tgt := 45) hx hb dX12_bagOf_40 (by decide +kernel) ?_
        exact W.iret hx hb hr (fun t ht hW => ⟨_, rfl, (Or.inr (Or.inr ⟨⟨by decide, by decide⟩, (show 0 ≤ x2.toInt ∧ x2.toInt < n1.toInt from by omega), ez_8⟩)), ht⟩) (fun _ h => by cases h) dX12_bagOf_45
      · refine lv_if_eq (tgt := 43) hx hb dX12_bagOf_26 (by decide +kernel) (fun _ => ?_) (fun c9 => absurd c9 (by decide +kernel))
        refine lv_bipush (v := (-12)) hx hb dX12_bagOf_43 (by decide +kernel) ?_
        exact W.iret hx hb hr (fun t ht hW => ⟨_, rfl, (Or.inr (Or.inl ⟨⟨by decide, by decide⟩, (show ¬ (0 ≤ x2.toInt ∧ x2.toInt < n1.toInt) from by omega), (by decide +kernel)⟩)), ht⟩) (fun _ h => by cases h) dX12_bagOf_45
    · refine va_aldq hx hb hE.1 hP 1 5 rfl rfl (by unfold vp_in; decide) dX12_bagOf_17 ?_
      refine W.eq (g2 := F0 m 18 ls [.ref h4, .int 0, .int x2]) (by rw [show (2 : Int32).toNatClampNeg = 2 from rfl, e1_2]; rfl) ?_
      refine va_get (D := D) (ci := 0) (v := .int n2) (C := RX1) (T := TX1) (N := 2) hx hb hts in_X12_bagOf_X1 hown hE.1 hP 4 rfl rfl 0 (by decide +kernel) (hts (.fieldLink RX12 307 "ClauseBook$Bag" "size" "I") (List.mem_of_getElem? (i := 2) rfl)) (fun _ h9 => h9) e4_0 dX12_bagOf_18 ?_
      refine lv_iconst (v := 1) hx hb dX12_bagOf_21 (by decide +kernel) ?_
      refine lv_isub hx hb dX12_bagOf_22 ?_
      refine vp_callSi (W.runS (As := [.int x2, .int 0, .int (n2 - 1)]) (rest := []) ⟨hx, hb, hml, hown, hts⟩ (c_X12_within l D T x2 0 (n2 - 1) 0 ((n2 - 1)).toInt (by decide +kernel) rfl) (va_cwS 3 hts gX12_bagOf_X12_within rfl rfl rfl hs_X12_within ⟨Nat.le_of_ble_eq_true rfl, Nat.le_of_ble_eq_true rfl⟩) (pR_S hP hE [] rfl) rfl rfl hl.1 rfl (lv_room (Nat.le_of_ble_eq_true rfl)) dX12_bagOf_23 ⟨Nat.le_of_ble_eq_true rfl, Nat.le_of_ble_eq_true rfl⟩) (fun r_9 hr_9 => ?_)
      rcases bool_post hr_9 with ⟨c_10, rfl⟩ | ⟨c_10, rfl⟩
      · refine lv_if_eq (tgt := 43) hx hb dX12_bagOf_26 (by decide +kernel) (fun c9 => absurd c9 (by decide +kernel)) (fun _ => ?_)
        refine lv_aload_n hx hb dX12_bagOf_29 rfl (lv_at hl 0 rfl) ?_
        refine va_get (D := D) (ci := 9) (v := .ref h1) (C := RX12) (T := TX12) (N := 11) hx hb hts in_X12_bagOf_X12 hown hE.1 hP 0 rfl rfl 5 (by decide +kernel) (hts (.fieldLink RX12 37 "ClauseBook" "bags" "[LClauseBook$Bag;") (List.mem_of_getElem? (i := 1) rfl)) (fun _ h9 => h9) e0_5 dX12_bagOf_30 ?_
        refine lv_iload_n hx hb dX12_bagOf_33 rfl (lv_at hl 1 rfl) ?_
        refine va_aldq hx hb hE.1 hP 1 5 rfl rfl (by unfold vp_in; decide) dX12_bagOf_34 ?_
        refine W.eq (g2 := F0 m 35 ls [.ref h4]) (by rw [show (2 : Int32).toNatClampNeg = 2 from rfl, e1_2]; rfl) ?_
        refine va_get (D := D) (ci := 0) (v := .ref h7) (C := RX1) (T := TX1) (N := 2) hx hb hts in_X12_bagOf_X1 hown hE.1 hP 4 rfl rfl 1 (by decide +kernel) (hts (.fieldLink RX12 308 "ClauseBook$Bag" "numbers" "[I") (List.mem_of_getElem? (i := 3) rfl)) (fun _ h9 => h9) e4_1 dX12_bagOf_35 ?_
        refine lv_iload_n hx hb dX12_bagOf_38 rfl (lv_at hl 2 rfl) ?_
        refine va_iald hx hb hE.1 hP 7 0 rfl rfl (by rw [vp_in_iff]; first | omega | (subst_vars; rw [dec1 (by omega)]; omega) | (subst_vars; rw [inc1 (n := 1000) (by omega) (by decide +kernel)]; omega)) dX12_bagOf_39 ?_
        refine lv_topi (fun z_11 ez_11 => ?_)
        refine lv_goto (tgt := 45) hx hb dX12_bagOf_40 (by decide +kernel) ?_
        exact W.iret hx hb hr (fun t ht hW => ⟨_, rfl, (Or.inr (Or.inr ⟨⟨by decide, by decide⟩, (show 0 ≤ x2.toInt ∧ x2.toInt < n2.toInt from by omega), ez_11⟩)), ht⟩) (fun _ h => by cases h) dX12_bagOf_45
      · refine lv_if_eq (tgt := 43) hx hb dX12_bagOf_26 (by decide +kernel) (fun _ => ?_) (fun c9 => absurd c9 (by decide +kernel))
        refine lv_bipush (v := (-12)) hx hb dX12_bagOf_43 (by decide +kernel) ?_
        exact W.iret hx hb hr (fun t ht hW => ⟨_, rfl, (Or.inr (Or.inl ⟨⟨by decide, by decide⟩, (show ¬ (0 ≤ x2.toInt ∧ x2.toInt < n2.toInt) from by omega), (by decide +kernel)⟩)), ht⟩) (fun _ h => by cases h) dX12_bagOf_45
  · refine lv_if_ne (tgt := 10) hx hb dX12_bagOf_4 (by decide +kernel) (fun c9 => absurd c9 (by decide +kernel)) (fun _ => ?_)
    refine lv_bipush (v := (-2)) hx hb dX12_bagOf_7 (by decide +kernel) ?_
    exact W.iret hx hb hr (fun t ht hW => ⟨_, rfl, (Or.inl ⟨(by omega), (by decide +kernel)⟩), ht⟩) (fun _ h => by cases h) dX12_bagOf_9
theorem dX10_append_0 : decode cX10_append 0 = .ok (.aload_n 0, 1) := by decide +kernel
theorem dX10_append_1 : decode cX10_append 1 = .ok (.getfield 9, 3) := by decide +kernel
theorem dX10_append_10 : decode cX10_append 10 = .ok (.aload_n 0, 1) := by decide +kernel
theorem dX10_append_11 : decode cX10_append 11 = .ok (.getfield 15, 3) := by decide +kernel
theorem dX10_append_14 : decode cX10_append 14 = .ok (.aload_n 0, 1) := by decide +kernel
theorem dX10_append_15 : decode cX10_append 15 = .ok (.getfield 9, 3) := by decide +kernel
theorem dX10_append_18 : decode cX10_append 18 = .ok (.iload_n 1, 1) := by decide +kernel
theorem dX10_append_19 : decode cX10_append 19 = .ok (.iastore, 1) := by decide +kernel
theorem dX10_append_20 : decode cX10_append 20 = .ok (.aload_n 0, 1) := by decide +kernel
theorem dX10_append_21 : decode cX10_append 21 = .ok (.dup, 1) := by decide +kernel
theorem dX10_append_22 : decode cX10_append 22 = .ok (.getfield 9, 3) := by decide +kernel
theorem dX10_append_25 : decode cX10_append 25 = .ok (.iconst 1, 1) := by decide +kernel
theorem dX10_append_26 : decode cX10_append 26 = .ok (.iadd, 1) := by decide +kernel
theorem dX10_append_27 : decode cX10_append 27 = .ok (.putfield 9, 3) := by decide +kernel
theorem dX10_append_30 : decode cX10_append 30 = .ok (.return_, 1) := by decide +kernel
theorem dX10_append_4 : decode cX10_append 4 = .ok (.bipush 120, 2) := by decide +kernel
theorem dX10_append_6 : decode cX10_append 6 = .ok (.if_icmp .lt 4, 3) := by decide +kernel
theorem dX10_append_9 : decode cX10_append 9 = .ok (.return_, 1) := by decide +kernel
set_option maxRecDepth 20000 in
theorem in_X10_append_X10 : ∀ w ∈ wsX100, w ∈ wsX10_append := sub_r [3, 4, 5, 6, 7, 8, 9] rfl
set_option maxHeartbeats 4000000 in
set_option maxRecDepth 100000 in
theorem c_X10_append (l : Launch) (D : va_G) (T : Nat → ClassId) (sz : Nat) (h0 : Nat) (n : Int32) (a0 : Nat) (f : Nat → Int32) (v2 : Value) (v3 : Value) (m4 : Int32) (m5 : Int32) (m6 : Int32) (x1 : Int32) (hn : 0 ≤ n.toInt ∧ n.toInt ≤ 120) : Met l yX10_append wsX10_append ({ frames := 0, cells := 0, slots := 0, locals := 0 }) (pW [.ref h0, .int x1] D T [(h0, .inr (7, [.int n, .ref a0, v2, v3, .int m4, .int m5, .int m6])), (a0, .inl (T 0, 120, .inl f))] sz) (va_Qv (fun (u : Int32 × (Nat → Int32)) => (0 ≤ u.1.toInt ∧ u.1.toInt ≤ 120) ∧ ((n).toInt < 120 → u.1.toInt = (n).toInt + 1 ∧ u.2 = upd f ((n).toNatClampNeg) x1)) (bW D (va_A [(h0, .inr (7, [.int n, .ref a0, v2, v3, .int m4, .int m5, .int m6])), (a0, .inl (T 0, 120, .inl f))] sz) (fun (u : Int32 × (Nat → Int32)) => [(h0, .inr (7, [.int u.1, .ref a0, v2, v3, .int m4, .int m5, .int m6])), (a0, .inl (T 0, 120, .inl u.2))])) (va_A [(h0, .inr (7, [.int n, .ref a0, v2, v3, .int m4, .int m5, .int m6])), (a0, .inl (T 0, 120, .inl f))] sz)) 0 0 (va_A [(h0, .inr (7, [.int n, .ref a0, v2, v3, .int m4, .int m5, .int m6])), (a0, .inl (T 0, 120, .inl f))] sz) := by
  refine Met.ofW (cc := cX10_append) (maxL := 2) (ret := none) (by decide +kernel) rfl ?_
  intro p e s m args below meth c s₁ B hml hv
  obtain ⟨rfl, hsz, hP, hE, hD0⟩ := hv
  have hx := B.exec
  have hb := B.bytes
  have hr := B.returns
  have hts := atoms_spec (ws := wsX10_append) B.pre
  have hown : s.vm.findClass RX10 = some m.cls := findClass_of_methodNamed B.named
  have hlocks := B.notSynchronized
  subst hsz
  have hD := hD0.self (sz := s.heap.size)
  generalize hAe : va_A [(h0, .inr (7, [.int n, .ref a0, v2, v3, .int m4, .int m5, .int m6])), (a0, .inl (T 0, 120, .inl f))] s.heap.size = A at hD ⊢
  have hA : ∀ q : Nat, s.heap.size ≤ q → A q := fun q h => by rw [← hAe]; exact Or.inr h
  have hS : va_S A s.heap s.heap [] := va_S.rf
  have hP : va_P D vwCl [(h0, .inr (7, [.int n, .ref a0, v2, v3, .int m4, .int m5, .int m6])), (a0, .inl (T 0, 120, .inl f))] s.heap := hP
  have hl := lv_entry ([.ref h0, .int x1]) (n := 2) (Nat.le_of_ble_eq_true rfl)
  rw [lg_entry_eq]
  generalize (lg_sl ([.ref h0, .int x1]) ++ List.replicate (2 - (lg_sl ([.ref h0, .int x1])).length) Slot.unset).toArray = ls at hl ⊢
  have hl : lv_has ls 2 [(0, .ref h0), (1, .int x1)] := hl
  clear hD0
  refine lv_aload_n hx hb dX10_append_0 rfl (lv_at hl 0 rfl) ?_
  refine va_get (D := D) (ci := 7) (v := .int n) (C := RX10) (T := TX10) (N := 7) hx hb hts in_X10_append_X10 hown hE.1 hP 0 rfl rfl 0 (by decide +kernel) (hts (.fieldLink RX10 9 "ClauseBook$Tape" "size" "I") (List.mem_of_getElem? (i := 1) rfl)) (fun _ h9 => h9) rfl dX10_append_1 ?_
  refine lv_bipush (v := 120) hx hb dX10_append_4 (by decide +kernel) ?_
  refine lv_icmp_lt (tgt := 10) hx hb dX10_append_6 (by decide +kernel) (fun c_1 => ?_) (fun c_1 => ?_)
  · rw [fa_lt] at c_1
    try rw [ti_120] at c_1
    refine lv_aload_n hx hb dX10_append_10 rfl (lv_at hl 0 rfl) ?_
    refine va_get (D := D) (ci := 7) (v := .ref a0) (C := RX10) (T := TX10) (N := 7) hx hb hts in_X10_append_X10 hown hE.1 hP 0 rfl rfl 1 (by decide +kernel) (hts (.fieldLink RX10 15 "ClauseBook$Tape" "bytes" "[I") (List.mem_of_getElem? (i := 2) rfl)) (fun _ h9 => h9) rfl dX10_append_11 ?_
    refine lv_aload_n hx hb dX10_append_14 rfl (lv_at hl 0 rfl) ?_
    refine va_get (D := D) (ci := 7) (v := .int n) (C := RX10) (T := TX10) (N := 7) hx hb hts in_X10_append_X10 hown hE.1 hP 0 rfl rfl 0 (by decide +kernel) (hts (.fieldLink RX10 9 "ClauseBook$Tape" "size" "I") (List.mem_of_getElem? (i := 1) rfl)) (fun _ h9 => h9) rfl dX10_append_15 ?_
    refine lv_iload_n hx hb dX10_append_18 rfl (lv_at hl 1 rfl) ?_
    refine va_iast hx hb hE.1 hP hD hS 1 0 rfl rfl (by rw [vp_in_iff]; first | omega | (subst_vars; rw [dec1 (by omega)]; omega) | (subst_vars; rw [inc1 (n := 1000) (by omega) (by decide +kernel)]; omega)) dX10_append_19 (fun H locs hP hD hS => ?_)
    obtain ⟨hP, hD⟩ := wPD [(h0, .inr (7, [.int n, .ref a0, v2, v3, .int m4, .int m5, .int m6])), (a0, .inl (T 0, 120, .inl (upd f (n.toNatClampNeg) x1)))] hP hD rfl
    refine lv_aload_n hx hb dX10_append_20 rfl (lv_at hl 0 rfl) ?_
    refine lv_dup hx hb dX10_append_21 rfl ?_
    refine va_get (D := D) (ci := 7) (v := .int n) (C := RX10) (T := TX10) (N := 7) hx hb hts in_X10_append_X10 hown hE.1 hP 0 rfl rfl 0 (by decide +kernel) (hts (.fieldLink RX10 9 "ClauseBook$Tape" "size" "I") (List.mem_of_getElem? (i := 1) rfl)) (fun _ h9 => h9) rfl dX10_append_22 ?_
    refine lv_iconst (v := 1) hx hb dX10_append_25 (by decide +kernel) ?_
    refine lv_iadd hx hb dX10_append_26 ?_
    refine lv_topi (fun z_2 ez_2 => ?_)
    refine va_put (D := D) (ci := 7) (v := .int z_2) (ty := .int) (C := RX10) (T := TX10) (N := 7) hx hb hts in_X10_append_X10 tyX10 tyX10_ok nmX10 hown hE.1 hP hD hS 0 rfl rfl 0 (by decide +kernel) (hts (.fieldLink RX10 9 "ClauseBook$Tape" "size" "I") (List.mem_of_getElem? (i := 1) rfl)) (fun _ h9 => h9) rfl (by decide +kernel) rfl rfl (Nat.le_of_ble_eq_true rfl) dX10_append_27 (fun H locs hP hD hS => ?_)
    obtain ⟨hP, hD⟩ := wPD [(h0, .inr (7, [.int z_2, .ref a0, v2, v3, .int m4, .int m5, .int m6])), (a0, .inl (T 0, 120, .inl (upd f (n.toNatClampNeg) x1)))] hP hD rfl
    exact W.vret hx hb hr (fun t ht hW => ⟨⟨(z_2, (upd f (n.toNatClampNeg) x1)), rfl, ⟨(show 0 ≤ (z_2).toInt ∧ (z_2).toInt ≤ 120 from by (try subst_vars); first | omega | (rw [inc1 (n := 120) (by omega) (by decide +kernel)]; omega)), (fun _ => ⟨(show (z_2).toInt = n.toInt + 1 from by rw [ez_2]; exact inc1 (n := 120) (by omega) (by decide +kernel)), rfl⟩)⟩, by rw [ht]; exact hP.sub [0, 1] rfl, hD.sub [0, 1] (by decide +kernel) rfl⟩, hS.F ht⟩) hS.2.2 dX10_append_30
  · rw [fa_lt] at c_1
    try rw [ti_120] at c_1
    exact W.vret hx hb hr (fun t ht hW => ⟨⟨(n, f), rfl, ⟨(show 0 ≤ (n).toInt ∧ (n).toInt ≤ 120 from by (try subst_vars); first | omega | (rw [inc1 (n := 120) (by omega) (by decide +kernel)]; omega)), (fun h9 => absurd h9 (by omega))⟩, by rw [ht]; exact hP.sub [0, 1] rfl, hD.sub [0, 1] (by decide +kernel) rfl⟩, hS.F ht⟩) hS.2.2 dX10_append_9
theorem dX12_feed_0 : decode cX12_feed 0 = .ok (.iload_n 1, 1) := by decide +kernel
theorem dX12_feed_1 : decode cX12_feed 1 = .ok (.iconst 1, 1) := by decide +kernel
theorem dX12_feed_11 : decode cX12_feed 11 = .ok (.ireturn, 1) := by decide +kernel
theorem dX12_feed_12 : decode cX12_feed 12 = .ok (.aload_n 0, 1) := by decide +kernel
theorem dX12_feed_13 : decode cX12_feed 13 = .ok (.getfield 59, 3) := by decide +kernel
theorem dX12_feed_16 : decode cX12_feed 16 = .ok (.getfield 285, 3) := by decide +kernel
theorem dX12_feed_19 : decode cX12_feed 19 = .ok (.iload_n 1, 1) := by decide +kernel
theorem dX12_feed_2 : decode cX12_feed 2 = .ok (.iconst 4, 1) := by decide +kernel
theorem dX12_feed_20 : decode cX12_feed 20 = .ok (.iadd, 1) := by decide +kernel
theorem dX12_feed_21 : decode cX12_feed 21 = .ok (.bipush 120, 2) := by decide +kernel
theorem dX12_feed_23 : decode cX12_feed 23 = .ok (.if_icmp .le 6, 3) := by decide +kernel
theorem dX12_feed_26 : decode cX12_feed 26 = .ok (.bipush (-4), 2) := by decide +kernel
theorem dX12_feed_28 : decode cX12_feed 28 = .ok (.ireturn, 1) := by decide +kernel
theorem dX12_feed_29 : decode cX12_feed 29 = .ok (.iconst 0, 1) := by decide +kernel
theorem dX12_feed_3 : decode cX12_feed 3 = .ok (.invokestatic 77, 3) := by decide +kernel
theorem dX12_feed_30 : decode cX12_feed 30 = .ok (.istore_n 3, 1) := by decide +kernel
theorem dX12_feed_31 : decode cX12_feed 31 = .ok (.iload_n 3, 1) := by decide +kernel
theorem dX12_feed_32 : decode cX12_feed 32 = .ok (.iload_n 1, 1) := by decide +kernel
theorem dX12_feed_33 : decode cX12_feed 33 = .ok (.if_icmp .ge 29, 3) := by decide +kernel
theorem dX12_feed_36 : decode cX12_feed 36 = .ok (.aload_n 0, 1) := by decide +kernel
theorem dX12_feed_37 : decode cX12_feed 37 = .ok (.getfield 59, 3) := by decide +kernel
theorem dX12_feed_40 : decode cX12_feed 40 = .ok (.iload_n 2, 1) := by decide +kernel
theorem dX12_feed_41 : decode cX12_feed 41 = .ok (.bipush 24, 2) := by decide +kernel
theorem dX12_feed_43 : decode cX12_feed 43 = .ok (.bipush 8, 2) := by decide +kernel
theorem dX12_feed_45 : decode cX12_feed 45 = .ok (.iload_n 3, 1) := by decide +kernel
theorem dX12_feed_46 : decode cX12_feed 46 = .ok (.imul, 1) := by decide +kernel
theorem dX12_feed_47 : decode cX12_feed 47 = .ok (.isub, 1) := by decide +kernel
theorem dX12_feed_48 : decode cX12_feed 48 = .ok (.iushr, 1) := by decide +kernel
theorem dX12_feed_49 : decode cX12_feed 49 = .ok (.sipush 255, 3) := by decide +kernel
theorem dX12_feed_52 : decode cX12_feed 52 = .ok (.iand, 1) := by decide +kernel
theorem dX12_feed_53 : decode cX12_feed 53 = .ok (.invokevirtual 286, 3) := by decide +kernel
theorem dX12_feed_56 : decode cX12_feed 56 = .ok (.iinc 3 1, 3) := by decide +kernel
theorem dX12_feed_59 : decode cX12_feed 59 = .ok (.goto (-28), 3) := by decide +kernel
theorem dX12_feed_6 : decode cX12_feed 6 = .ok (.ifCond .ne 6, 3) := by decide +kernel
theorem dX12_feed_62 : decode cX12_feed 62 = .ok (.aload_n 0, 1) := by decide +kernel
theorem dX12_feed_63 : decode cX12_feed 63 = .ok (.getfield 59, 3) := by decide +kernel
theorem dX12_feed_66 : decode cX12_feed 66 = .ok (.getfield 285, 3) := by decide +kernel
theorem dX12_feed_69 : decode cX12_feed 69 = .ok (.ireturn, 1) := by decide +kernel
theorem dX12_feed_9 : decode cX12_feed 9 = .ok (.bipush (-2), 2) := by decide +kernel
set_option maxRecDepth 20000 in
theorem ggX12_feed_X10_append : GoodIn wsX12_feed wsX10_append := goodIn_r _ [11, 12, 13, 25, 26, 27, 28, 29, 30, 31] rfl (by decide +kernel)
set_option maxRecDepth 20000 in
theorem ggX12_feed_X12_within : GoodIn wsX12_feed wsX12_within := goodIn_r _ [6] rfl (by decide +kernel)
set_option maxRecDepth 20000 in
theorem gX12_feed_X10_append : GoodIn wsX12_feed (wsV RX12 286 RX10 yX10_append wsX10_append) := goodIn_app (goodIn_r _ [7, 8, 9, 10] rfl (by decide +kernel)) ggX12_feed_X10_append
set_option maxRecDepth 20000 in
theorem gX12_feed_X12_within : GoodIn wsX12_feed (va_wsS RX12 77 yX12_within wsX12_within) := goodIn_app (goodIn_of _ (by decide +kernel)) ggX12_feed_X12_within
theorem hv_X10_append : yX10_append.cls = RX10 ∧ yX10_append.cls ≠ "java/lang/invoke/MethodHandle" ∧ yX10_append.cls ≠ "java/lang/invoke/VarHandle" ∧ (parseMethodDescriptor yX10_append.desc).map (fun d => d.parameters.length) = some 1 := by decide +kernel
set_option maxRecDepth 20000 in
theorem in_X12_feed_X10 : ∀ w ∈ wsX100, w ∈ wsX12_feed := sub_r [25, 26, 27, 28, 29, 30, 31] rfl
set_option maxRecDepth 20000 in
theorem in_X12_feed_X12 : ∀ w ∈ wsX120, w ∈ wsX12_feed := sub_r [14, 15, 16, 17, 18, 19, 20, 21, 22, 23, 24] rfl
set_option maxHeartbeats 4000000 in
set_option maxRecDepth 100000 in
theorem c_X12_feed (l : Launch) (D : va_G) (T : Nat → ClassId) (sz : Nat) (h0 : Nat) (h1 : Nat) (fs0 : List Value) (n : Int32) (a0 : Nat) (f : Nat → Int32) (v2 : Value) (v3 : Value) (m4 : Int32) (m5 : Int32) (m6 : Int32) (x1 : Int32) (x2 : Int32) (e0_8 : fs0[8]? = some (.ref h1)) (hn : 0 ≤ n.toInt ∧ n.toInt ≤ 120) : Met l yX12_feed wsX12_feed ({ frames := 1, cells := 0, slots := 0, locals := 22 }) (pW [.ref h0, .int x1, .int x2] D T [(h0, .inr (9, fs0)), (h1, .inr (7, [.int n, .ref a0, v2, v3, .int m4, .int m5, .int m6])), (a0, .inl (T 0, 120, .inl f))] sz) (va_Qi (fun (r : Int32) (u : Int32 × (Nat → Int32)) => (0 ≤ u.1.toInt ∧ u.1.toInt ≤ 120) ∧ ((¬ (1 ≤ x1.toInt ∧ x1.toInt ≤ 4) ∧ r.toInt = -2 ∧ u.1.toInt = n.toInt) ∨ ((1 ≤ x1.toInt ∧ x1.toInt ≤ 4) ∧ 120 < n.toInt + x1.toInt ∧ r.toInt = -4 ∧ u.1.toInt = n.toInt) ∨ ((1 ≤ x1.toInt ∧ x1.toInt ≤ 4) ∧ n.toInt + x1.toInt ≤ 120 ∧ r.toInt = u.1.toInt ∧ u.1.toInt = n.toInt + x1.toInt)) ∧ ((1 ≤ x1.toInt ∧ x1.toInt ≤ 4) ∧ n.toInt + x1.toInt ≤ 120 → u.2 = fdF f (n).toNatClampNeg x2 x1.toNatClampNeg) ∧ (¬ ((1 ≤ x1.toInt ∧ x1.toInt ≤ 4) ∧ n.toInt + x1.toInt ≤ 120) → u.2 = f)) (bW D (va_A [(h0, .inr (9, fs0)), (h1, .inr (7, [.int n, .ref a0, v2, v3, .int m4, .int m5, .int m6])), (a0, .inl (T 0, 120, .inl f))] sz) (fun (u : Int32 × (Nat → Int32)) => [(h0, .inr (9, fs0)), (h1, .inr (7, [.int u.1, .ref a0, v2, v3, .int m4, .int m5, .int m6])), (a0, .inl (T 0, 120, .inl u.2))])) (va_A [(h0, .inr (9, fs0)), (h1, .inr (7, [.int n, .ref a0, v2, v3, .int m4, .int m5, .int m6])), (a0, .inl (T 0, 120, .inl f))] sz)) 0 0 (va_A [(h0, .inr (9, fs0)), (h1, .inr (7, [.int n, .ref a0, v2, v3, .int m4, .int m5, .int m6])), (a0, .inl (T 0, 120, .inl f))] sz) := by
  refine Met.ofW (cc := cX12_feed) (maxL := 4) (ret := (some .int)) (by decide +kernel) rfl ?_
  intro p e s m args below meth c s₁ B hml hv
  obtain ⟨rfl, hsz, hP, hE, hD0⟩ := hv
  have hx := B.exec
  have hb := B.bytes
  have hr := B.returns
  have hts := atoms_spec (ws := wsX12_feed) B.pre
  have hown : s.vm.findClass RX12 = some m.cls := findClass_of_methodNamed B.named
  have hlocks := B.notSynchronized
  subst hsz
  have hD := hD0.self (sz := s.heap.size)
  generalize hAe : va_A [(h0, .inr (9, fs0)), (h1, .inr (7, [.int n, .ref a0, v2, v3, .int m4, .int m5, .int m6])), (a0, .inl (T 0, 120, .inl f))] s.heap.size = A at hD ⊢
  have hA : ∀ q : Nat, s.heap.size ≤ q → A q := fun q h => by rw [← hAe]; exact Or.inr h
  have hS : va_S A s.heap s.heap [] := va_S.rf
  have hP : va_P D vwCl [(h0, .inr (9, fs0)), (h1, .inr (7, [.int n, .ref a0, v2, v3, .int m4, .int m5, .int m6])), (a0, .inl (T 0, 120, .inl f))] s.heap := hP
  have hl := lv_entry ([.ref h0, .int x1, .int x2]) (n := 4) (Nat.le_of_ble_eq_true rfl)
  rw [lg_entry_eq]
  generalize (lg_sl ([.ref h0, .int x1, .int x2]) ++ List.replicate (4 - (lg_sl ([.ref h0, .int x1, .int x2])).length) Slot.unset).toArray = ls at hl ⊢
  have hl : lv_has ls 4 [(0, .ref h0), (1, .int x1), (2, .int x2)] := hl
  clear hD0
  refine lv_iload_n hx hb dX12_feed_0 rfl (lv_at hl 1 rfl) ?_
  refine lv_iconst (v := 1) hx hb dX12_feed_1 (by decide +kernel) ?_
  refine lv_iconst (v := 4) hx hb dX12_feed_2 (by decide +kernel) ?_
  refine vp_callSi (W.runS (As := [.int x1, .int 1, .int 4]) (rest := []) ⟨hx, hb, hml, hown, hts⟩ (c_X12_within l D T x1 1 4 1 4 (by decide +kernel) (by decide +kernel)) (va_cwS 3 hts gX12_feed_X12_within rfl rfl rfl hs_X12_within ⟨Nat.le_of_ble_eq_true rfl, Nat.le_of_ble_eq_true rfl⟩) (pR_S hP hE [] rfl) rfl rfl hl.1 rfl (lv_room (Nat.le_of_ble_eq_true rfl)) dX12_feed_3 ⟨Nat.le_of_ble_eq_true rfl, Nat.le_of_ble_eq_true rfl⟩) (fun r_1 hr_1 => ?_)
  rcases bool_post hr_1 with ⟨c_2, rfl⟩ | ⟨c_2, rfl⟩
  · refine lv_if_ne (tgt := 12) hx hb dX12_feed_6 (by decide +kernel) (fun _ => ?_) (fun c9 => absurd c9 (by decide +kernel))
    refine lv_aload_n hx hb dX12_feed_12 rfl (lv_at hl 0 rfl) ?_
    refine va_get (D := D) (ci := 9) (v := .ref h1) (C := RX12) (T := TX12) (N := 11) hx hb hts in_X12_feed_X12 hown hE.1 hP 0 rfl rfl 8 (by decide +kernel) (hts (.fieldLink RX12 59 "ClauseBook" "tape" "LClauseBook$Tape;") (List.mem_of_getElem? (i := 1) rfl)) (fun _ h9 => h9) e0_8 dX12_feed_13 ?_
    refine va_get (D := D) (ci := 7) (v := .int n) (C := RX10) (T := TX10) (N := 7) hx hb hts in_X12_feed_X10 hown hE.1 hP 1 rfl rfl 0 (by decide +kernel) (hts (.fieldLink RX12 285 "ClauseBook$Tape" "size" "I") (List.mem_of_getElem? (i := 2) rfl)) (fun _ h9 => h9) rfl dX12_feed_16 ?_
    refine lv_iload_n hx hb dX12_feed_19 rfl (lv_at hl 1 rfl) ?_
    refine lv_iadd hx hb dX12_feed_20 ?_
    have hs9 : (n + x1).toInt = n.toInt + x1.toInt := fb_addI (by omega) (by omega)
    refine lv_bipush (v := 120) hx hb dX12_feed_21 (by decide +kernel) ?_
    refine lv_icmp_le (tgt := 29) hx hb dX12_feed_23 (by decide +kernel) (fun c_3 => ?_) (fun c_3 => ?_)
    · rw [fa_le] at c_3
      try rw [ti_120] at c_3
      refine lv_iconst (v := 0) hx hb dX12_feed_29 (by decide +kernel) ?_
      refine lv_istore_n (lv' := [(3, .int 0), (0, .ref h0), (1, .int x1), (2, .int x2)]) hx hb dX12_feed_30 rfl hl (by decide +kernel) rfl (fun ls hl => ?_)
      refine loopW (σ := (Int32) × (Int32) × (Nat → Int32)) (fun x9 ls H locs => lv_has ls 4 [(3, .int x9.1), (0, .ref h0), (1, .int x1), (2, .int x2)] ∧ va_P D vwCl [(h0, .inr (9, fs0)), (h1, .inr (7, [.int x9.2.1, .ref a0, v2, v3, .int m4, .int m5, .int m6])), (a0, .inl (T 0, 120, .inl x9.2.2))] H ∧ va_D A [(h0, .inr (9, fs0)), (h1, .inr (7, [.int x9.2.1, .ref a0, v2, v3, .int m4, .int m5, .int m6])), (a0, .inl (T 0, 120, .inl x9.2.2))] ∧ va_S A s.heap H locs ∧ (((0 ≤ x9.1.toInt ∧ x9.1.toInt ≤ x1.toInt) ∧ x9.2.1.toInt = n.toInt + x9.1.toInt ∧ 0 ≤ x9.2.1.toInt ∧ x9.2.1.toInt ≤ 120) ∧ x9.2.2 = fdF f n.toNatClampNeg x2 x9.1.toNatClampNeg)) (fun x9 => (5 - x9.1.toInt).toNat) (fun x9 ls H locs hI ih => ?_) (0, n, f) ls ⟨lv_sub hl [0, 1, 2, 3] rfl, hP.sub [0, 1, 2] rfl, hD.sub [0, 1, 2] (by decide +kernel) rfl, hS, ⟨(by (try dsimp only); rw [ti_0]; omega), (by (try dsimp only); rw [tn0']; rfl)⟩⟩
      obtain ⟨ii, ni, fi⟩ := x9
      obtain ⟨hl, hP, hD, hS, hinv⟩ := hI
      have hl : lv_has ls 4 [(3, .int ii), (0, .ref h0), (1, .int x1), (2, .int x2)] := hl
      have hP : va_P D vwCl [(h0, .inr (9, fs0)), (h1, .inr (7, [.int ni, .ref a0, v2, v3, .int m4, .int m5, .int m6])), (a0, .inl (T 0, 120, .inl fi))] H := hP
      have hD : va_D A [(h0, .inr (9, fs0)), (h1, .inr (7, [.int ni, .ref a0, v2, v3, .int m4, .int m5, .int m6])), (a0, .inl (T 0, 120, .inl fi))] := hD
      have hinv : ((0 ≤ ii.toInt ∧ ii.toInt ≤ x1.toInt) ∧ ni.toInt = n.toInt + ii.toInt ∧ 0 ≤ ni.toInt ∧ ni.toInt ≤ 120) ∧ fi = fdF f n.toNatClampNeg x2 ii.toNatClampNeg := hinv
      obtain ⟨hinv, hfi⟩ := hinv
      refine lv_iload_n hx hb dX12_feed_31 rfl (lv_at hl 0 rfl) ?_
      refine lv_iload_n hx hb dX12_feed_32 rfl (lv_at hl 2 rfl) ?_
      refine lv_icmp_ge (tgt := 62) hx hb dX12_feed_33 (by decide +kernel) (fun c_4 => ?_) (fun c_4 => ?_)
      · rw [fa_le] at c_4
        refine lv_aload_n hx hb dX12_feed_62 rfl (lv_at hl 1 rfl) ?_
        refine va_get (D := D) (ci := 9) (v := .ref h1) (C := RX12) (T := TX12) (N := 11) hx hb hts in_X12_feed_X12 hown hE.1 hP 0 rfl rfl 8 (by decide +kernel) (hts (.fieldLink RX12 59 "ClauseBook" "tape" "LClauseBook$Tape;") (List.mem_of_getElem? (i := 1) rfl)) (fun _ h9 => h9) e0_8 dX12_feed_63 ?_
        refine va_get (D := D) (ci := 7) (v := .int ni) (C := RX10) (T := TX10) (N := 7) hx hb hts in_X12_feed_X10 hown hE.1 hP 1 rfl rfl 0 (by decide +kernel) (hts (.fieldLink RX12 285 "ClauseBook$Tape" "size" "I") (List.mem_of_getElem? (i := 2) rfl)) (fun _ h9 => h9) rfl dX12_feed_66 ?_
        exact W.iret hx hb hr (fun t ht hW => ⟨⟨_, (ni, fi), rfl, ⟨(show 0 ≤ (ni).toInt ∧ (ni).toInt ≤ 120 from by omega), (Or.inr (Or.inr ⟨by omega, by omega, rfl, (by (try dsimp only); omega)⟩)), ⟨(fun _ => (show ii = x1 from Int32.toInt_inj.1 (by omega)) ▸ hfi), (fun h9 => absurd (by omega) h9)⟩⟩, by rw [ht]; exact hP.sub [0, 1, 2] rfl, hD.sub [0, 1, 2] (by decide +kernel) rfl⟩, hS.F ht⟩) hS.2.2 dX12_feed_69
      · rw [fa_le] at c_4
        refine lv_aload_n hx hb dX12_feed_36 rfl (lv_at hl 1 rfl) ?_
        refine va_get (D := D) (ci := 9) (v := .ref h1) (C := RX12) (T := TX12) (N := 11) hx hb hts in_X12_feed_X12 hown hE.1 hP 0 rfl rfl 8 (by decide +kernel) (hts (.fieldLink RX12 59 "ClauseBook" "tape" "LClauseBook$Tape;") (List.mem_of_getElem? (i := 1) rfl)) (fun _ h9 => h9) e0_8 dX12_feed_37 ?_
        refine lv_iload_n hx hb dX12_feed_40 rfl (lv_at hl 3 rfl) ?_
        refine lv_bipush (v := 24) hx hb dX12_feed_41 (by decide +kernel) ?_
        refine lv_bipush (v := 8) hx hb dX12_feed_43 (by decide +kernel) ?_
        refine lv_iload_n hx hb dX12_feed_45 rfl (lv_at hl 0 rfl) ?_
        refine lv_imul hx hb dX12_feed_46 ?_
        refine lv_isub hx hb dX12_feed_47 ?_
        obtain ⟨z_5, ez_5⟩ : ∃ y : Int32, (x2.toUInt32 >>> ((24 - (8 * ii)).toUInt32 &&& Int32.toUInt32 31)).toInt32 = y := ⟨_, rfl⟩
        refine lv_iushr (v := z_5) hx hb dX12_feed_48 ez_5 ?_
        refine lv_sipush (v := 255) hx hb dX12_feed_49 (by decide +kernel) ?_
        refine lv_iand hx hb dX12_feed_52 ?_
        have hFc := va_free (wc := [(h1, .inr (7, [.int ni, .ref a0, v2, v3, .int m4, .int m5, .int m6])), (a0, .inl (T 0, 120, .inl fi))]) hD hS hA [1, 2] rfl
        refine va_callv (va_runV (As := [.int (z_5 &&& 255)]) (rest := []) ⟨hx, hb, hml, hown, hts⟩ (c_X10_append l D T _ h1 ni a0 fi (v2) (v3) m4 m5 m6 (z_5 &&& 255) (by omega)) (cwV 1 hts gX12_feed_X10_append rfl rfl rfl hv_X10_append ⟨Nat.le_of_ble_eq_true rfl, Nat.le_of_ble_eq_true rfl⟩) (pW_V (q := (RX10, TX10, 7)) (ci := 7) (q0 := 1) hP hE hD rfl rfl [1, 2] (by decide +kernel) rfl rfl) rfl rfl hl.1 rfl (lv_room (Nat.le_of_ble_eq_true rfl)) dX12_feed_53 ⟨Nat.le_of_ble_eq_true rfl, Nat.le_of_ble_eq_true rfl⟩) hS (fun q _ h => hFc q h) hFc (fun u_7 t H1 locs ht hvm hr_6 hB hz1 hk1 hS => ?_)
        obtain ⟨n_8, f_9⟩ := u_7
        have hinn_8 : (0 ≤ n_8.toInt ∧ n_8.toInt ≤ 120) ∧ ((ni).toInt < 120 → n_8.toInt = (ni).toInt + 1 ∧ f_9 = upd fi ((ni).toNatClampNeg) (z_5 &&& 255)) := hr_6
        have hia := (hinn_8.2 (by omega)).1
        have hib := (hinn_8.2 (by omega)).2
        have hic := hinn_8.1
        clear hinn_8
        obtain ⟨hP1, hD1⟩ := hB
        rw [ht] at hP1
        obtain ⟨hP, hD⟩ := va_repl [(h0, .inr (9, fs0)), (h1, .inr (7, [.int n_8, .ref a0, v2, v3, .int m4, .int m5, .int m6])), (a0, .inl (T 0, 120, .inl f_9))] hP hD [1, 2] [1, 2] rfl (by decide +kernel) rfl rfl rfl hk1 hP1
        clear hP1 hD1 hFc
        generalize H1 = H at hP hS ⊢
        obtain ⟨z_10, ez_10⟩ : ∃ y : Int32, y = ii + 1 := ⟨_, rfl⟩
        refine lv_iinc (v := z_10) (lv' := [(3, .int z_10), (0, .ref h0), (1, .int x1), (2, .int x2)]) hx hb dX12_feed_56 hl (k := 0) rfl (by rw [ez_10]; rfl) (by decide +kernel) rfl (fun ls hl => ?_)
        have hi9 : z_10.toInt = ii.toInt + 1 := by rw [ez_10]; exact inc1 (n := 1000) (by omega) (by decide +kernel)
        refine lv_goto (tgt := 31) hx hb dX12_feed_59 (by decide +kernel) ?_
        exact ih (z_10, n_8, f_9) ls _ _ ⟨lv_sub hl [0, 1, 2, 3] rfl, hP.sub [0, 1, 2] rfl, hD.sub [0, 1, 2] (by decide +kernel) rfl, hS, ⟨(by (try dsimp only); omega), (by (try dsimp only); rw [hib]; exact fdF_step (n := n) (i := ii) (by omega) (by omega) hi9 (by omega) hfi (by rw [← ez_5]; rfl))⟩⟩ (by (try dsimp only); omega)
    · rw [fa_le] at c_3
      try rw [ti_120] at c_3
      refine lv_bipush (v := (-4)) hx hb dX12_feed_26 (by decide +kernel) ?_
      exact W.iret hx hb hr (fun t ht hW => ⟨⟨_, (n, f), rfl, ⟨(show 0 ≤ (n).toInt ∧ (n).toInt ≤ 120 from by omega), (Or.inr (Or.inl ⟨by omega, by omega, by decide, rfl⟩)), ⟨(fun h9 => absurd h9 (by omega)), (fun _ => rfl)⟩⟩, by rw [ht]; exact hP.sub [0, 1, 2] rfl, hD.sub [0, 1, 2] (by decide +kernel) rfl⟩, hS.F ht⟩) hS.2.2 dX12_feed_28
  · refine lv_if_ne (tgt := 12) hx hb dX12_feed_6 (by decide +kernel) (fun c9 => absurd c9 (by decide +kernel)) (fun _ => ?_)
    refine lv_bipush (v := (-2)) hx hb dX12_feed_9 (by decide +kernel) ?_
    exact W.iret hx hb hr (fun t ht hW => ⟨⟨_, (n, f), rfl, ⟨(show 0 ≤ (n).toInt ∧ (n).toInt ≤ 120 from by omega), (Or.inl ⟨by omega, by decide, rfl⟩), ⟨(fun h9 => absurd h9 (by omega)), (fun _ => rfl)⟩⟩, by rw [ht]; exact hP.sub [0, 1, 2] rfl, hD.sub [0, 1, 2] (by decide +kernel) rfl⟩, hS.F ht⟩) hS.2.2 dX12_feed_11
