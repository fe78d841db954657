theorem in13 {x : Int32} (h : 0 ≤ x.toInt ∧ x.toInt ≤ 12) : x = 0 ∨ x = 1 ∨ x = 2 ∨ x = 3 ∨ x = 4 ∨ x = 5 ∨ x = 6 ∨ x = 7 ∨ x = 8 ∨ x = 9 ∨ x = 10 ∨ x = 11 ∨ x = 12 := by
  simp only [fa_eq, ti_0, ti_1, ti_2, ti_3, ti_4, ti_5, ti_6, ti_7, ti_8, ti_9, ti_10, ti_11, ti_12]
  omega
theorem dX12_clause_0 : decode cX12_clause 0 = .ok (.iload_n 1, 1) := by decide +kernel
theorem dX12_clause_1 : decode cX12_clause 1 = .ok (.iconst 0, 1) := by decide +kernel
theorem dX12_clause_11 : decode cX12_clause 11 = .ok (.ifCond .ne 6, 3) := by decide +kernel
theorem dX12_clause_14 : decode cX12_clause 14 = .ok (.bipush (-2), 2) := by decide +kernel
theorem dX12_clause_16 : decode cX12_clause 16 = .ok (.ireturn, 1) := by decide +kernel
theorem dX12_clause_17 : decode cX12_clause 17 = .ok (.getstatic 126, 3) := by decide +kernel
theorem dX12_clause_2 : decode cX12_clause 2 = .ok (.getstatic 126, 3) := by decide +kernel
theorem dX12_clause_20 : decode cX12_clause 20 = .ok (.iload_n 1, 1) := by decide +kernel
theorem dX12_clause_21 : decode cX12_clause 21 = .ok (.aaload, 1) := by decide +kernel
theorem dX12_clause_22 : decode cX12_clause 22 = .ok (.astore 5, 2) := by decide +kernel
theorem dX12_clause_24 : decode cX12_clause 24 = .ok (.iload_n 2, 1) := by decide +kernel
theorem dX12_clause_25 : decode cX12_clause 25 = .ok (.aload 5, 2) := by decide +kernel
theorem dX12_clause_27 : decode cX12_clause 27 = .ok (.getfield 132, 3) := by decide +kernel
theorem dX12_clause_30 : decode cX12_clause 30 = .ok (.aload 5, 2) := by decide +kernel
theorem dX12_clause_32 : decode cX12_clause 32 = .ok (.getfield 135, 3) := by decide +kernel
theorem dX12_clause_35 : decode cX12_clause 35 = .ok (.invokestatic 77, 3) := by decide +kernel
theorem dX12_clause_38 : decode cX12_clause 38 = .ok (.ifCond .eq 21, 3) := by decide +kernel
theorem dX12_clause_41 : decode cX12_clause 41 = .ok (.aload 5, 2) := by decide +kernel
theorem dX12_clause_43 : decode cX12_clause 43 = .ok (.iload_n 3, 1) := by decide +kernel
theorem dX12_clause_44 : decode cX12_clause 44 = .ok (.iload 4, 2) := by decide +kernel
theorem dX12_clause_46 : decode cX12_clause 46 = .ok (.aload_n 0, 1) := by decide +kernel
theorem dX12_clause_47 : decode cX12_clause 47 = .ok (.getfield 32, 3) := by decide +kernel
theorem dX12_clause_5 : decode cX12_clause 5 = .ok (.arraylength, 1) := by decide +kernel
theorem dX12_clause_50 : decode cX12_clause 50 = .ok (.getfield 138, 3) := by decide +kernel
theorem dX12_clause_53 : decode cX12_clause 53 = .ok (.invokevirtual 143, 3) := by decide +kernel
theorem dX12_clause_56 : decode cX12_clause 56 = .ok (.ifCond .ne 6, 3) := by decide +kernel
theorem dX12_clause_59 : decode cX12_clause 59 = .ok (.bipush (-2), 2) := by decide +kernel
theorem dX12_clause_6 : decode cX12_clause 6 = .ok (.iconst 1, 1) := by decide +kernel
theorem dX12_clause_61 : decode cX12_clause 61 = .ok (.ireturn, 1) := by decide +kernel
theorem dX12_clause_62 : decode cX12_clause 62 = .ok (.aload_n 0, 1) := by decide +kernel
theorem dX12_clause_63 : decode cX12_clause 63 = .ok (.getfield 32, 3) := by decide +kernel
theorem dX12_clause_66 : decode cX12_clause 66 = .ok (.getfield 138, 3) := by decide +kernel
theorem dX12_clause_69 : decode cX12_clause 69 = .ok (.bipush 24, 2) := by decide +kernel
theorem dX12_clause_7 : decode cX12_clause 7 = .ok (.isub, 1) := by decide +kernel
theorem dX12_clause_71 : decode cX12_clause 71 = .ok (.if_icmp .lt 6, 3) := by decide +kernel
theorem dX12_clause_77 : decode cX12_clause 77 = .ok (.aload_n 0, 1) := by decide +kernel
theorem dX12_clause_78 : decode cX12_clause 78 = .ok (.getfield 32, 3) := by decide +kernel
theorem dX12_clause_8 : decode cX12_clause 8 = .ok (.invokestatic 77, 3) := by decide +kernel
theorem dX12_clause_81 : decode cX12_clause 81 = .ok (.iload_n 1, 1) := by decide +kernel
theorem dX12_clause_82 : decode cX12_clause 82 = .ok (.iload_n 2, 1) := by decide +kernel
theorem dX12_clause_83 : decode cX12_clause 83 = .ok (.iload_n 3, 1) := by decide +kernel
theorem dX12_clause_84 : decode cX12_clause 84 = .ok (.iload 4, 2) := by decide +kernel
theorem dX12_clause_86 : decode cX12_clause 86 = .ok (.invokevirtual 146, 3) := by decide +kernel
theorem dX12_clause_89 : decode cX12_clause 89 = .ok (.ireturn, 1) := by decide +kernel
set_option maxRecDepth 20000 in
theorem ggX12_clause_X12_within : GoodIn wsX12_clause wsX12_within := goodIn_r _ [8] (by decide +kernel) (by decide +kernel)
set_option maxRecDepth 20000 in
theorem ggX12_clause_X2_append : GoodIn wsX12_clause wsX2_append := goodIn_r _ [19, 20, 21, 22, 23, 24, 25, 18, 26, 27, 28, 29, 30, 31, 32, 33, 34, 35, 36, 37, 38, 39, 40, 41, 42, 43, 44, 45, 46, 47, 48, 60, 61, 62, 63, 64, 65, 66, 67] (by decide +kernel) (by decide +kernel)
set_option maxRecDepth 20000 in
theorem ggX12_clause_X7_mayName : GoodIn wsX12_clause wsX7_mayName := goodIn_r _ [13, 14, 6, 7, 8] (by decide +kernel) (by decide +kernel)
set_option maxRecDepth 20000 in
theorem gX12_clause_X12_within : GoodIn wsX12_clause (va_wsS RX12 77 yX12_within wsX12_within) := goodIn_app (goodIn_of _ (by decide +kernel)) ggX12_clause_X12_within
set_option maxRecDepth 20000 in
theorem gX12_clause_X2_append : GoodIn wsX12_clause (wsV RX12 146 RX2 yX2_append wsX2_append) := goodIn_app (goodIn_of _ (by decide +kernel)) ggX12_clause_X2_append
set_option maxRecDepth 20000 in
theorem gX12_clause_X7_mayName : GoodIn wsX12_clause (wsV RX12 143 RX7 yX7_mayName wsX7_mayName) := goodIn_app (goodIn_of _ (by decide +kernel)) ggX12_clause_X7_mayName
set_option maxRecDepth 20000 in
theorem in_X12_clause_X12 : ∀ w ∈ wsX120, w ∈ wsX12_clause := by decide +kernel
set_option maxRecDepth 20000 in
theorem in_X12_clause_X2 : ∀ w ∈ wsX20, w ∈ wsX12_clause := by decide +kernel
set_option maxHeartbeats 4000000 in
set_option maxRecDepth 100000 in
theorem f_X12_clause (l : Launch) (D : va_G) (T : Nat → ClassId) (ad sa av : Nat → Nat) (ta : Nat) (sz : Nat) (h0 : Nat) (h1 : Nat) (fs0 : List Value) (c1 : Nat) (c2 : Nat) (c3 : Nat) (c4 : Nat) (c5 : Nat) (c6 : Nat) (c7 : Nat) (f1 : Nat → Int32) (f2 : Nat → Int32) (f3 : Nat → Int32) (f4 : Nat → Int32) (f5 : Nat → Int32) (f6 : Nat → Int32) (f7 : Nat → Int32) (x1 : Int32) (x2 : Int32) (x3 : Int32) (x4 : Int32) (e0_4 : fs0[4]? = some (.ref h1)) : Met l yX12_clause wsX12_clause ({ frames := 4, cells := 0, slots := 0, locals := 96 }) (pWk [.ref h0, .int x1, .int x2, .int x3, .int x4] D T [(h0, .inr (9, fs0)), (h1, .inr (1, [.int 0, .ref c1, .ref c2, .ref c3, .ref c4, .ref c5, .ref c6, .ref c7])), (c1, .inl (T 0, 24, .inl f1)), (c2, .inl (T 0, 24, .inl f2)), (c3, .inl (T 0, 24, .inl f3)), (c4, .inl (T 0, 24, .inl f4)), (c5, .inl (T 0, 24, .inl f5)), (c6, .inl (T 0, 24, .inl f6)), (c7, .inl (T 0, 24, .inl f7))] sz ad sa av ta) (va_Qi (fun (r : Int32) (u : Unit) => r = sp_clause x1 x2 x3 x4) (bW D (va_A [(h0, .inr (9, fs0)), (h1, .inr (1, [.int 0, .ref c1, .ref c2, .ref c3, .ref c4, .ref c5, .ref c6, .ref c7])), (c1, .inl (T 0, 24, .inl f1)), (c2, .inl (T 0, 24, .inl f2)), (c3, .inl (T 0, 24, .inl f3)), (c4, .inl (T 0, 24, .inl f4)), (c5, .inl (T 0, 24, .inl f5)), (c6, .inl (T 0, 24, .inl f6)), (c7, .inl (T 0, 24, .inl f7))] sz) (fun (u : Unit) => ([] : va_W))) (va_A [(h0, .inr (9, fs0)), (h1, .inr (1, [.int 0, .ref c1, .ref c2, .ref c3, .ref c4, .ref c5, .ref c6, .ref c7])), (c1, .inl (T 0, 24, .inl f1)), (c2, .inl (T 0, 24, .inl f2)), (c3, .inl (T 0, 24, .inl f3)), (c4, .inl (T 0, 24, .inl f4)), (c5, .inl (T 0, 24, .inl f5)), (c6, .inl (T 0, 24, .inl f6)), (c7, .inl (T 0, 24, .inl f7))] sz)) 0 0 (va_A [(h0, .inr (9, fs0)), (h1, .inr (1, [.int 0, .ref c1, .ref c2, .ref c3, .ref c4, .ref c5, .ref c6, .ref c7])), (c1, .inl (T 0, 24, .inl f1)), (c2, .inl (T 0, 24, .inl f2)), (c3, .inl (T 0, 24, .inl f3)), (c4, .inl (T 0, 24, .inl f4)), (c5, .inl (T 0, 24, .inl f5)), (c6, .inl (T 0, 24, .inl f6)), (c7, .inl (T 0, 24, .inl f7))] sz) := by
  refine Met.ofW (cc := cX12_clause) (maxL := 6) (ret := (some .int)) (by decide) rfl ?_
  intro p e s m args below meth c s₁ B hml hv
  obtain ⟨rfl, hsz, hP, hE, hD0, hV⟩ := hv
  have hx := B.exec
  have hb := B.bytes
  have hr := B.returns
  have hts := atoms_spec (ws := wsX12_clause) B.pre
  have hown : s.vm.findClass RX12 = some m.cls := findClass_of_methodNamed B.named
  have hlocks := B.notSynchronized
  subst hsz
  have hD := hD0.self (sz := s.heap.size)
  generalize hAe : va_A [(h0, .inr (9, fs0)), (h1, .inr (1, [.int 0, .ref c1, .ref c2, .ref c3, .ref c4, .ref c5, .ref c6, .ref c7])), (c1, .inl (T 0, 24, .inl f1)), (c2, .inl (T 0, 24, .inl f2)), (c3, .inl (T 0, 24, .inl f3)), (c4, .inl (T 0, 24, .inl f4)), (c5, .inl (T 0, 24, .inl f5)), (c6, .inl (T 0, 24, .inl f6)), (c7, .inl (T 0, 24, .inl f7))] s.heap.size = A at hD hV ⊢
  have hA : ∀ q : Nat, s.heap.size ≤ q → A q := fun q h => by rw [← hAe]; exact Or.inr h
  have hS : va_S A s.heap s.heap [] := va_S.rf
  have hP : va_P D vwCl [(h0, .inr (9, fs0)), (h1, .inr (1, [.int 0, .ref c1, .ref c2, .ref c3, .ref c4, .ref c5, .ref c6, .ref c7])), (c1, .inl (T 0, 24, .inl f1)), (c2, .inl (T 0, 24, .inl f2)), (c3, .inl (T 0, 24, .inl f3)), (c4, .inl (T 0, 24, .inl f4)), (c5, .inl (T 0, 24, .inl f5)), (c6, .inl (T 0, 24, .inl f6)), (c7, .inl (T 0, 24, .inl f7))] s.heap := hP
  have hl := lv_entry ([.ref h0, .int x1, .int x2, .int x3, .int x4]) (n := 6) (Nat.le_of_ble_eq_true rfl)
  rw [lg_entry_eq]
  generalize (lg_sl ([.ref h0, .int x1, .int x2, .int x3, .int x4]) ++ List.replicate (6 - (lg_sl ([.ref h0, .int x1, .int x2, .int x3, .int x4])).length) Slot.unset).toArray = ls at hl ⊢
  have hl : lv_has ls 6 [(0, .ref h0), (1, .int x1), (2, .int x2), (3, .int x3), (4, .int x4)] := hl
  clear hD0
  refine lv_iload_n hx hb dX12_clause_0 rfl (lv_at hl 1 rfl) ?_
  refine lv_iconst (v := 0) hx hb dX12_clause_1 (by decide) ?_
  refine va_getsN (v := .ref ta) hx hb hV.1.2.1 hS hown (va_Nw.use rfl (hE.2.2.1 _ (List.mem_of_getElem? (i := 0) rfl))) (fun _ h9 => h9) dX12_clause_2 ?_
  refine va_tlen (v := 13) hx hb hV.1.2.2 hS rfl dX12_clause_5 ?_
  refine lv_iconst (v := 1) hx hb dX12_clause_6 (by decide) ?_
  refine lv_isub hx hb dX12_clause_7 ?_
  refine lv_topi (fun z_1 ez_1 => ?_)
  obtain rfl : z_1 = 12 := ez_1.trans (by decide)
  refine vp_callSi (W.runS (As := [.int x1, .int 0, .int 12]) (rest := []) ⟨hx, hb, hml, hown, hts⟩ (c_X12_within l D T x1 0 12 0 12 (by decide) (by decide)) (va_cwS 3 hts gX12_clause_X12_within rfl rfl rfl (by decide +kernel) ⟨Nat.le_of_ble_eq_true rfl, Nat.le_of_ble_eq_true rfl⟩) (pR_S hP hE [] rfl) rfl rfl hl.1 rfl (lv_room (Nat.le_of_ble_eq_true rfl)) dX12_clause_8 ⟨Nat.le_of_ble_eq_true rfl, Nat.le_of_ble_eq_true rfl⟩) (fun r_2 hr_2 => ?_)
  rcases bool_post hr_2 with ⟨c_3, rfl⟩ | ⟨c_3, rfl⟩
  · refine lv_if_ne (tgt := 17) hx hb dX12_clause_11 (by decide) (fun _ => ?_) (fun c9 => absurd c9 (by decide))
    rcases in13 (x := x1) (by omega) with rfl | rfl | rfl | rfl | rfl | rfl | rfl | rfl | rfl | rfl | rfl | rfl | rfl
    · have h9t := ti_0
      refine va_getsN (v := .ref ta) hx hb hV.1.2.1 hS hown (va_Nw.use rfl (hE.2.2.1 _ (List.mem_of_getElem? (i := 0) rfl))) (fun _ h9 => h9) dX12_clause_17 ?_
      refine lv_iload_n hx hb dX12_clause_20 rfl (lv_at hl 1 rfl) ?_
      refine vb_tq (v := .ref (ad 0)) hx hb hV.1.2.2 hS (by unfold vp_in; decide) rfl dX12_clause_21 ?_
      refine lv_astore (lv' := [(5, .ref (ad 0)), (0, .ref h0), (1, .int 0), (2, .int x2), (3, .int x3), (4, .int x4)]) hx hb dX12_clause_22 hl (by decide) rfl (fun ls hl => ?_)
      refine lv_iload_n hx hb dX12_clause_24 rfl (lv_at hl 3 rfl) ?_
      refine lv_aload hx hb dX12_clause_25 (lv_at hl 0 rfl) ?_
      refine va_getE (i := 0) hx hb hV.1.1 (by decide) hS hown (q := kdQ "least" [0, 0, 0, -9, 0, 0, 0, 0, 0, 0, 0, 0, -99]) (List.mem_of_getElem? (i := 1) rfl) (hts (.fieldLink RX12 132 "ClauseBook$Kind" "least" "I") (List.mem_of_getElem? (i := 1) rfl)) (fun _ h9 => h9) dX12_clause_27 ?_
      refine W.eq (g2 := F0 m 30 ls [.int 0, .int x2]) rfl ?_
      refine lv_aload hx hb dX12_clause_30 (lv_at hl 0 rfl) ?_
      refine va_getE (i := 0) hx hb hV.1.1 (by decide) hS hown (q := kdQ "most" [0, 0, 0, 9, 0, 0, 0, 0, 6, 0, 0, 0, 99]) (List.mem_of_getElem? (i := 2) rfl) (hts (.fieldLink RX12 135 "ClauseBook$Kind" "most" "I") (List.mem_of_getElem? (i := 2) rfl)) (fun _ h9 => h9) dX12_clause_32 ?_
      refine W.eq (g2 := F0 m 35 ls [.int 0, .int 0, .int x2]) rfl ?_
      refine vp_callSi (W.runS (As := [.int x2, .int 0, .int 0]) (rest := []) ⟨hx, hb, hml, hown, hts⟩ (c_X12_within l D T x2 0 0 0 0 (by decide) (by decide)) (va_cwS 3 hts gX12_clause_X12_within rfl rfl rfl (by decide +kernel) ⟨Nat.le_of_ble_eq_true rfl, Nat.le_of_ble_eq_true rfl⟩) (pR_S hP hE [] rfl) rfl rfl hl.1 rfl (lv_room (Nat.le_of_ble_eq_true rfl)) dX12_clause_35 ⟨Nat.le_of_ble_eq_true rfl, Nat.le_of_ble_eq_true rfl⟩) (fun r_4 hr_4 => ?_)
      rcases bool_post hr_4 with ⟨c_5, rfl⟩ | ⟨c_5, rfl⟩
      · refine lv_if_eq (tgt := 59) hx hb dX12_clause_38 (by decide) (fun c9 => absurd c9 (by decide)) (fun _ => ?_)
        refine lv_aload hx hb dX12_clause_41 (lv_at hl 0 rfl) ?_
        refine lv_iload_n hx hb dX12_clause_43 rfl (lv_at hl 4 rfl) ?_
        refine lv_iload hx hb dX12_clause_44 (lv_at hl 5 rfl) ?_
        refine lv_aload_n hx hb dX12_clause_46 rfl (lv_at hl 1 rfl) ?_
        refine va_get (D := D) (ci := 9) (v := .ref h1) (C := RX12) (T := TX12) (N := 11) hx hb hts in_X12_clause_X12 hown hE.1 hP 0 rfl rfl 4 (by decide) (hts (.fieldLink RX12 32 "ClauseBook" "clauses" "LClauseBook$Clauses;") (List.mem_of_getElem? (i := 3) rfl)) (fun _ h9 => h9) e0_4 dX12_clause_47 ?_
        refine va_get (D := D) (ci := 1) (v := .int 0) (C := RX2) (T := TX2) (N := 8) hx hb hts in_X12_clause_X2 hown hE.1 hP 1 rfl rfl 0 (by decide) (hts (.fieldLink RX12 138 "ClauseBook$Clauses" "size" "I") (List.mem_of_getElem? (i := 4) rfl)) (fun _ h9 => h9) rfl dX12_clause_50 ?_
        refine vp_callSi (W.runV (As := [.int x3, .int x4, .int 0]) (rest := []) ⟨hx, hb, hml, hown, hts⟩ (f_X7_mayName_0 l D T ad sa av ta x3 x4) (cwV 3 hts gX12_clause_X7_mayName rfl rfl rfl (by decide +kernel) ⟨Nat.le_of_ble_eq_true rfl, Nat.le_of_ble_eq_true rfl⟩) (pRk_VE (i := 0) (by decide) hP hE hV hS [] rfl) rfl rfl hl.1 rfl (lv_room (Nat.le_of_ble_eq_true rfl)) dX12_clause_53 ⟨Nat.le_of_ble_eq_true rfl, Nat.le_of_ble_eq_true rfl⟩) (fun r_6 hr_6 => ?_)
        rcases bool_post hr_6 with ⟨c_7, rfl⟩ | ⟨c_7, rfl⟩
        · refine lv_if_ne (tgt := 62) hx hb dX12_clause_56 (by decide) (fun _ => ?_) (fun c9 => absurd c9 (by decide))
          refine lv_aload_n hx hb dX12_clause_62 rfl (lv_at hl 1 rfl) ?_
          refine va_get (D := D) (ci := 9) (v := .ref h1) (C := RX12) (T := TX12) (N := 11) hx hb hts in_X12_clause_X12 hown hE.1 hP 0 rfl rfl 4 (by decide) (hts (.fieldLink RX12 32 "ClauseBook" "clauses" "LClauseBook$Clauses;") (List.mem_of_getElem? (i := 3) rfl)) (fun _ h9 => h9) e0_4 dX12_clause_63 ?_
          refine va_get (D := D) (ci := 1) (v := .int 0) (C := RX2) (T := TX2) (N := 8) hx hb hts in_X12_clause_X2 hown hE.1 hP 1 rfl rfl 0 (by decide) (hts (.fieldLink RX12 138 "ClauseBook$Clauses" "size" "I") (List.mem_of_getElem? (i := 4) rfl)) (fun _ h9 => h9) rfl dX12_clause_66 ?_
          refine lv_bipush (v := 24) hx hb dX12_clause_69 (by decide) ?_
          refine lv_icmp_lt (tgt := 77) hx hb dX12_clause_71 (by decide) (fun _ => ?_) (fun c9 => absurd c9 (by decide))
          refine lv_aload_n hx hb dX12_clause_77 rfl (lv_at hl 1 rfl) ?_
          refine va_get (D := D) (ci := 9) (v := .ref h1) (C := RX12) (T := TX12) (N := 11) hx hb hts in_X12_clause_X12 hown hE.1 hP 0 rfl rfl 4 (by decide) (hts (.fieldLink RX12 32 "ClauseBook" "clauses" "LClauseBook$Clauses;") (List.mem_of_getElem? (i := 3) rfl)) (fun _ h9 => h9) e0_4 dX12_clause_78 ?_
          refine lv_iload_n hx hb dX12_clause_81 rfl (lv_at hl 2 rfl) ?_
          refine lv_iload_n hx hb dX12_clause_82 rfl (lv_at hl 3 rfl) ?_
          refine lv_iload_n hx hb dX12_clause_83 rfl (lv_at hl 4 rfl) ?_
          refine lv_iload hx hb dX12_clause_84 (lv_at hl 5 rfl) ?_
          have hFc := va_free (wc := [(h1, .inr (1, [.int 0, .ref c1, .ref c2, .ref c3, .ref c4, .ref c5, .ref c6, .ref c7])), (c1, .inl (T 0, 24, .inl f1)), (c2, .inl (T 0, 24, .inl f2)), (c3, .inl (T 0, 24, .inl f3)), (c4, .inl (T 0, 24, .inl f4)), (c5, .inl (T 0, 24, .inl f5)), (c6, .inl (T 0, 24, .inl f6)), (c7, .inl (T 0, 24, .inl f7))]) hD hS hA [1, 2, 3, 4, 5, 6, 7, 8] rfl
          refine va_calli (va_runV (As := [.int 0, .int x2, .int x3, .int x4]) (rest := []) ⟨hx, hb, hml, hown, hts⟩ (f_X2_append_0 l D T ad sa av ta _ h1 c1 c2 c3 c4 c5 c6 c7 f1 f2 f3 f4 f5 f6 f7 x2 x3 x4) (cwV 4 hts gX12_clause_X2_append rfl rfl rfl (by decide +kernel) ⟨Nat.le_of_ble_eq_true rfl, Nat.le_of_ble_eq_true rfl⟩) (pWk_V (ci := 1) (q0 := 1) hP hE hD hV hS hFc rfl rfl [1, 2, 3, 4, 5, 6, 7, 8] (by decide) rfl rfl) rfl rfl hl.1 rfl (lv_room (Nat.le_of_ble_eq_true rfl)) dX12_clause_86 ⟨Nat.le_of_ble_eq_true rfl, Nat.le_of_ble_eq_true rfl⟩) hS (fun q _ h => hFc q h) hFc (fun r_8 u_9 t H1 locs ht hvm hr_8 hB hz1 hk1 hS => ?_)
          obtain ⟨hP1, hD1⟩ := hB
          rw [ht] at hP1
          obtain ⟨hP, hD⟩ := va_join (wr := [(h0, .inr (9, fs0))]) (w1 := []) hP hD [1, 2, 3, 4, 5, 6, 7, 8] [0] rfl rfl (by decide) (by decide) hk1 hFc hP1 hD1
          clear hP1 hD1 hFc
          generalize H1 = H at hP hS ⊢
          have hP : va_P D vwCl [(h0, .inr (9, fs0))] H := hP
          have hD : va_D A [(h0, .inr (9, fs0))] := hD
          obtain rfl : r_8 = 0 := hr_8
          exact W.iret hx hb hr (fun t ht hW => ⟨⟨_, (), rfl, (by unfold sp_clause; (repeat' split) <;> first | rfl | (exfalso; omega)), by rw [ht]; exact hP.sub [] rfl, hD.sub [] (by decide) rfl⟩, hS.F ht⟩) hS.2.2 dX12_clause_89
        · refine lv_if_ne (tgt := 62) hx hb dX12_clause_56 (by decide) (fun c9 => absurd c9 (by decide)) (fun _ => ?_)
          refine lv_bipush (v := (-2)) hx hb dX12_clause_59 (by decide) ?_
          exact W.iret hx hb hr (fun t ht hW => ⟨⟨_, (), rfl, (by unfold sp_clause; (repeat' split) <;> first | rfl | (exfalso; omega)), by rw [ht]; exact hP.sub [] rfl, hD.sub [] (by decide) rfl⟩, hS.F ht⟩) hS.2.2 dX12_clause_61
      · refine lv_if_eq (tgt := 59) hx hb dX12_clause_38 (by decide) (fun _ => ?_) (fun c9 => absurd c9 (by decide))
        refine lv_bipush (v := (-2)) hx hb dX12_clause_59 (by decide) ?_
        exact W.iret hx hb hr (fun t ht hW => ⟨⟨_, (), rfl, (by unfold sp_clause; (repeat' split) <;> first | rfl | (exfalso; omega)), by rw [ht]; exact hP.sub [] rfl, hD.sub [] (by decide) rfl⟩, hS.F ht⟩) hS.2.2 dX12_clause_61
    · have h9t := ti_1
      refine va_getsN (v := .ref ta) hx hb hV.1.2.1 hS hown (va_Nw.use rfl (hE.2.2.1 _ (List.mem_of_getElem? (i := 0) rfl))) (fun _ h9 => h9) dX12_clause_17 ?_
      refine lv_iload_n hx hb dX12_clause_20 rfl (lv_at hl 1 rfl) ?_
      refine vb_tq (v := .ref (ad 1)) hx hb hV.1.2.2 hS (by unfold vp_in; decide) rfl dX12_clause_21 ?_
      refine lv_astore (lv' := [(5, .ref (ad 1)), (0, .ref h0), (1, .int 1), (2, .int x2), (3, .int x3), (4, .int x4)]) hx hb dX12_clause_22 hl (by decide) rfl (fun ls hl => ?_)
      refine lv_iload_n hx hb dX12_clause_24 rfl (lv_at hl 3 rfl) ?_
      refine lv_aload hx hb dX12_clause_25 (lv_at hl 0 rfl) ?_
      refine va_getE (i := 1) hx hb hV.1.1 (by decide) hS hown (q := kdQ "least" [0, 0, 0, -9, 0, 0, 0, 0, 0, 0, 0, 0, -99]) (List.mem_of_getElem? (i := 1) rfl) (hts (.fieldLink RX12 132 "ClauseBook$Kind" "least" "I") (List.mem_of_getElem? (i := 1) rfl)) (fun _ h9 => h9) dX12_clause_27 ?_
      refine W.eq (g2 := F0 m 30 ls [.int 0, .int x2]) rfl ?_
      refine lv_aload hx hb dX12_clause_30 (lv_at hl 0 rfl) ?_
      refine va_getE (i := 1) hx hb hV.1.1 (by decide) hS hown (q := kdQ "most" [0, 0, 0, 9, 0, 0, 0, 0, 6, 0, 0, 0, 99]) (List.mem_of_getElem? (i := 2) rfl) (hts (.fieldLink RX12 135 "ClauseBook$Kind" "most" "I") (List.mem_of_getElem? (i := 2) rfl)) (fun _ h9 => h9) dX12_clause_32 ?_
      refine W.eq (g2 := F0 m 35 ls [.int 0, .int 0, .int x2]) rfl ?_
      refine vp_callSi (W.runS (As := [.int x2, .int 0, .int 0]) (rest := []) ⟨hx, hb, hml, hown, hts⟩ (c_X12_within l D T x2 0 0 0 0 (by decide) (by decide)) (va_cwS 3 hts gX12_clause_X12_within rfl rfl rfl (by decide +kernel) ⟨Nat.le_of_ble_eq_true rfl, Nat.le_of_ble_eq_true rfl⟩) (pR_S hP hE [] rfl) rfl rfl hl.1 rfl (lv_room (Nat.le_of_ble_eq_true rfl)) dX12_clause_35 ⟨Nat.le_of_ble_eq_true rfl, Nat.le_of_ble_eq_true rfl⟩) (fun r_10 hr_10 => ?_)
      rcases bool_post hr_10 with ⟨c_11, rfl⟩ | ⟨c_11, rfl⟩
      · refine lv_if_eq (tgt := 59) hx hb dX12_clause_38 (by decide) (fun c9 => absurd c9 (by decide)) (fun _ => ?_)
        refine lv_aload hx hb dX12_clause_41 (lv_at hl 0 rfl) ?_
        refine lv_iload_n hx hb dX12_clause_43 rfl (lv_at hl 4 rfl) ?_
        refine lv_iload hx hb dX12_clause_44 (lv_at hl 5 rfl) ?_
        refine lv_aload_n hx hb dX12_clause_46 rfl (lv_at hl 1 rfl) ?_
        refine va_get (D := D) (ci := 9) (v := .ref h1) (C := RX12) (T := TX12) (N := 11) hx hb hts in_X12_clause_X12 hown hE.1 hP 0 rfl rfl 4 (by decide) (hts (.fieldLink RX12 32 "ClauseBook" "clauses" "LClauseBook$Clauses;") (List.mem_of_getElem? (i := 3) rfl)) (fun _ h9 => h9) e0_4 dX12_clause_47 ?_
        refine va_get (D := D) (ci := 1) (v := .int 0) (C := RX2) (T := TX2) (N := 8) hx hb hts in_X12_clause_X2 hown hE.1 hP 1 rfl rfl 0 (by decide) (hts (.fieldLink RX12 138 "ClauseBook$Clauses" "size" "I") (List.mem_of_getElem? (i := 4) rfl)) (fun _ h9 => h9) rfl dX12_clause_50 ?_
        refine vp_callSi (W.runV (As := [.int x3, .int x4, .int 0]) (rest := []) ⟨hx, hb, hml, hown, hts⟩ (f_X7_mayName_1 l D T ad sa av ta x3 x4) (cwV 3 hts gX12_clause_X7_mayName rfl rfl rfl (by decide +kernel) ⟨Nat.le_of_ble_eq_true rfl, Nat.le_of_ble_eq_true rfl⟩) (pRk_VE (i := 1) (by decide) hP hE hV hS [] rfl) rfl rfl hl.1 rfl (lv_room (Nat.le_of_ble_eq_true rfl)) dX12_clause_53 ⟨Nat.le_of_ble_eq_true rfl, Nat.le_of_ble_eq_true rfl⟩) (fun r_12 hr_12 => ?_)
        rcases bool_post hr_12 with ⟨c_13, rfl⟩ | ⟨c_13, rfl⟩
        · refine lv_if_ne (tgt := 62) hx hb dX12_clause_56 (by decide) (fun _ => ?_) (fun c9 => absurd c9 (by decide))
          refine lv_aload_n hx hb dX12_clause_62 rfl (lv_at hl 1 rfl) ?_
          refine va_get (D := D) (ci := 9) (v := .ref h1) (C := RX12) (T := TX12) (N := 11) hx hb hts in_X12_clause_X12 hown hE.1 hP 0 rfl rfl 4 (by decide) (hts (.fieldLink RX12 32 "ClauseBook" "clauses" "LClauseBook$Clauses;") (List.mem_of_getElem? (i := 3) rfl)) (fun _ h9 => h9) e0_4 dX12_clause_63 ?_
          refine va_get (D := D) (ci := 1) (v := .int 0) (C := RX2) (T := TX2) (N := 8) hx hb hts in_X12_clause_X2 hown hE.1 hP 1 rfl rfl 0 (by decide) (hts (.fieldLink RX12 138 "ClauseBook$Clauses" "size" "I") (List.mem_of_getElem? (i := 4) rfl)) (fun _ h9 => h9) rfl dX12_clause_66 ?_
          refine lv_bipush (v := 24) hx hb dX12_clause_69 (by decide) ?_
          refine lv_icmp_lt (tgt := 77) hx hb dX12_clause_71 (by decide) (fun _ => ?_) (fun c9 => absurd c9 (by decide))
          refine lv_aload_n hx hb dX12_clause_77 rfl (lv_at hl 1 rfl) ?_
          refine va_get (D := D) (ci := 9) (v := .ref h1) (C := RX12) (T := TX12) (N := 11) hx hb hts in_X12_clause_X12 hown hE.1 hP 0 rfl rfl 4 (by decide) (hts (.fieldLink RX12 32 "ClauseBook" "clauses" "LClauseBook$Clauses;") (List.mem_of_getElem? (i := 3) rfl)) (fun _ h9 => h9) e0_4 dX12_clause_78 ?_
          refine lv_iload_n hx hb dX12_clause_81 rfl (lv_at hl 2 rfl) ?_
          refine lv_iload_n hx hb dX12_clause_82 rfl (lv_at hl 3 rfl) ?_
          refine lv_iload_n hx hb dX12_clause_83 rfl (lv_at hl 4 rfl) ?_
          refine lv_iload hx hb dX12_clause_84 (lv_at hl 5 rfl) ?_
          have hFc := va_free (wc := [(h1, .inr (1, [.int 0, .ref c1, .ref c2, .ref c3, .ref c4, .ref c5, .ref c6, .ref c7])), (c1, .inl (T 0, 24, .inl f1)), (c2, .inl (T 0, 24, .inl f2)), (c3, .inl (T 0, 24, .inl f3)), (c4, .inl (T 0, 24, .inl f4)), (c5, .inl (T 0, 24, .inl f5)), (c6, .inl (T 0, 24, .inl f6)), (c7, .inl (T 0, 24, .inl f7))]) hD hS hA [1, 2, 3, 4, 5, 6, 7, 8] rfl
          refine va_calli (va_runV (As := [.int 1, .int x2, .int x3, .int x4]) (rest := []) ⟨hx, hb, hml, hown, hts⟩ (f_X2_append_1 l D T ad sa av ta _ h1 c1 c2 c3 c4 c5 c6 c7 f1 f2 f3 f4 f5 f6 f7 x2 x3 x4) (cwV 4 hts gX12_clause_X2_append rfl rfl rfl (by decide +kernel) ⟨Nat.le_of_ble_eq_true rfl, Nat.le_of_ble_eq_true rfl⟩) (pWk_V (ci := 1) (q0 := 1) hP hE hD hV hS hFc rfl rfl [1, 2, 3, 4, 5, 6, 7, 8] (by decide) rfl rfl) rfl rfl hl.1 rfl (lv_room (Nat.le_of_ble_eq_true rfl)) dX12_clause_86 ⟨Nat.le_of_ble_eq_true rfl, Nat.le_of_ble_eq_true rfl⟩) hS (fun q _ h => hFc q h) hFc (fun r_14 u_15 t H1 locs ht hvm hr_14 hB hz1 hk1 hS => ?_)
          obtain ⟨hP1, hD1⟩ := hB
          rw [ht] at hP1
          obtain ⟨hP, hD⟩ := va_join (wr := [(h0, .inr (9, fs0))]) (w1 := []) hP hD [1, 2, 3, 4, 5, 6, 7, 8] [0] rfl rfl (by decide) (by decide) hk1 hFc hP1 hD1
          clear hP1 hD1 hFc
          generalize H1 = H at hP hS ⊢
          have hP : va_P D vwCl [(h0, .inr (9, fs0))] H := hP
          have hD : va_D A [(h0, .inr (9, fs0))] := hD
          obtain rfl : r_14 = 0 := hr_14
          exact W.iret hx hb hr (fun t ht hW => ⟨⟨_, (), rfl, (by unfold sp_clause; (repeat' split) <;> first | rfl | (exfalso; omega)), by rw [ht]; exact hP.sub [] rfl, hD.sub [] (by decide) rfl⟩, hS.F ht⟩) hS.2.2 dX12_clause_89
        · refine lv_if_ne (tgt := 62) hx hb dX12_clause_56 (by decide) (fun c9 => absurd c9 (by decide)) (fun _ => ?_)
          refine lv_bipush (v := (-2)) hx hb dX12_clause_59 (by decide) ?_
          exact W.iret hx hb hr (fun t ht hW => ⟨⟨_, (), rfl, (by unfold sp_clause; (repeat' split) <;> first | rfl | (exfalso; omega)), by rw [ht]; exact hP.sub [] rfl, hD.sub [] (by decide) rfl⟩, hS.F ht⟩) hS.2.2 dX12_clause_61
      · refine lv_if_eq (tgt := 59) hx hb dX12_clause_38 (by decide) (fun _ => ?_) (fun c9 => absurd c9 (by decide))
        refine lv_bipush (v := (-2)) hx hb dX12_clause_59 (by decide) ?_
        exact W.iret hx hb hr (fun t ht hW => ⟨⟨_, (), rfl, (by unfold sp_clause; (repeat' split) <;> first | rfl | (exfalso; omega)), by rw [ht]; exact hP.sub [] rfl, hD.sub [] (by decide) rfl⟩, hS.F ht⟩) hS.2.2 dX12_clause_61
    · have h9t := ti_2
      refine va_getsN (v := .ref ta) hx hb hV.1.2.1 hS hown (va_Nw.use rfl (hE.2.2.1 _ (List.mem_of_getElem? (i := 0) rfl))) (fun _ h9 => h9) dX12_clause_17 ?_
      refine lv_iload_n hx hb dX12_clause_20 rfl (lv_at hl 1 rfl) ?_
      refine vb_tq (v := .ref (ad 2)) hx hb hV.1.2.2 hS (by unfold vp_in; decide) rfl dX12_clause_21 ?_
      refine lv_astore (lv' := [(5, .ref (ad 2)), (0, .ref h0), (1, .int 2), (2, .int x2), (3, .int x3), (4, .int x4)]) hx hb dX12_clause_22 hl (by decide) rfl (fun ls hl => ?_)
      refine lv_iload_n hx hb dX12_clause_24 rfl (lv_at hl 3 rfl) ?_
      refine lv_aload hx hb dX12_clause_25 (lv_at hl 0 rfl) ?_
      refine va_getE (i := 2) hx hb hV.1.1 (by decide) hS hown (q := kdQ "least" [0, 0, 0, -9, 0, 0, 0, 0, 0, 0, 0, 0, -99]) (List.mem_of_getElem? (i := 1) rfl) (hts (.fieldLink RX12 132 "ClauseBook$Kind" "least" "I") (List.mem_of_getElem? (i := 1) rfl)) (fun _ h9 => h9) dX12_clause_27 ?_
      refine W.eq (g2 := F0 m 30 ls [.int 0, .int x2]) rfl ?_
      refine lv_aload hx hb dX12_clause_30 (lv_at hl 0 rfl) ?_
      refine va_getE (i := 2) hx hb hV.1.1 (by decide) hS hown (q := kdQ "most" [0, 0, 0, 9, 0, 0, 0, 0, 6, 0, 0, 0, 99]) (List.mem_of_getElem? (i := 2) rfl) (hts (.fieldLink RX12 135 "ClauseBook$Kind" "most" "I") (List.mem_of_getElem? (i := 2) rfl)) (fun _ h9 => h9) dX12_clause_32 ?_
      refine W.eq (g2 := F0 m 35 ls [.int 0, .int 0, .int x2]) rfl ?_
      refine vp_callSi (W.runS (As := [.int x2, .int 0, .int 0]) (rest := []) ⟨hx, hb, hml, hown, hts⟩ (c_X12_within l D T x2 0 0 0 0 (by decide) (by decide)) (va_cwS 3 hts gX12_clause_X12_within rfl rfl rfl (by decide +kernel) ⟨Nat.le_of_ble_eq_true rfl, Nat.le_of_ble_eq_true rfl⟩) (pR_S hP hE [] rfl) rfl rfl hl.1 rfl (lv_room (Nat.le_of_ble_eq_true rfl)) dX12_clause_35 ⟨Nat.le_of_ble_eq_true rfl, Nat.le_of_ble_eq_true rfl⟩) (fun r_16 hr_16 => ?_)
      rcases bool_post hr_16 with ⟨c_17, rfl⟩ | ⟨c_17, rfl⟩
      · refine lv_if_eq (tgt := 59) hx hb dX12_clause_38 (by decide) (fun c9 => absurd c9 (by decide)) (fun _ => ?_)
        refine lv_aload hx hb dX12_clause_41 (lv_at hl 0 rfl) ?_
        refine lv_iload_n hx hb dX12_clause_43 rfl (lv_at hl 4 rfl) ?_
        refine lv_iload hx hb dX12_clause_44 (lv_at hl 5 rfl) ?_
        refine lv_aload_n hx hb dX12_clause_46 rfl (lv_at hl 1 rfl) ?_
        refine va_get (D := D) (ci := 9) (v := .ref h1) (C := RX12) (T := TX12) (N := 11) hx hb hts in_X12_clause_X12 hown hE.1 hP 0 rfl rfl 4 (by decide) (hts (.fieldLink RX12 32 "ClauseBook" "clauses" "LClauseBook$Clauses;") (List.mem_of_getElem? (i := 3) rfl)) (fun _ h9 => h9) e0_4 dX12_clause_47 ?_
        refine va_get (D := D) (ci := 1) (v := .int 0) (C := RX2) (T := TX2) (N := 8) hx hb hts in_X12_clause_X2 hown hE.1 hP 1 rfl rfl 0 (by decide) (hts (.fieldLink RX12 138 "ClauseBook$Clauses" "size" "I") (List.mem_of_getElem? (i := 4) rfl)) (fun _ h9 => h9) rfl dX12_clause_50 ?_
        refine vp_callSi (W.runV (As := [.int x3, .int x4, .int 0]) (rest := []) ⟨hx, hb, hml, hown, hts⟩ (f_X7_mayName_2 l D T ad sa av ta x3 x4) (cwV 3 hts gX12_clause_X7_mayName rfl rfl rfl (by decide +kernel) ⟨Nat.le_of_ble_eq_true rfl, Nat.le_of_ble_eq_true rfl⟩) (pRk_VE (i := 2) (by decide) hP hE hV hS [] rfl) rfl rfl hl.1 rfl (lv_room (Nat.le_of_ble_eq_true rfl)) dX12_clause_53 ⟨Nat.le_of_ble_eq_true rfl, Nat.le_of_ble_eq_true rfl⟩) (fun r_18 hr_18 => ?_)
        obtain rfl : r_18 = 0 := hr_18
        refine lv_if_ne (tgt := 62) hx hb dX12_clause_56 (by decide) (fun c9 => absurd c9 (by decide)) (fun _ => ?_)
        refine lv_bipush (v := (-2)) hx hb dX12_clause_59 (by decide) ?_
        exact W.iret hx hb hr (fun t ht hW => ⟨⟨_, (), rfl, (by unfold sp_clause; (repeat' split) <;> first | rfl | (exfalso; omega)), by rw [ht]; exact hP.sub [] rfl, hD.sub [] (by decide) rfl⟩, hS.F ht⟩) hS.2.2 dX12_clause_61
      · refine lv_if_eq (tgt := 59) hx hb dX12_clause_38 (by decide) (fun _ => ?_) (fun c9 => absurd c9 (by decide))
        refine lv_bipush (v := (-2)) hx hb dX12_clause_59 (by decide) ?_
        exact W.iret hx hb hr (fun t ht hW => ⟨⟨_, (), rfl, (by unfold sp_clause; (repeat' split) <;> first | rfl | (exfalso; omega)), by rw [ht]; exact hP.sub [] rfl, hD.sub [] (by decide) rfl⟩, hS.F ht⟩) hS.2.2 dX12_clause_61
    · have h9t := ti_3
      refine va_getsN (v := .ref ta) hx hb hV.1.2.1 hS hown (va_Nw.use rfl (hE.2.2.1 _ (List.mem_of_getElem? (i := 0) rfl))) (fun _ h9 => h9) dX12_clause_17 ?_
      refine lv_iload_n hx hb dX12_clause_20 rfl (lv_at hl 1 rfl) ?_
      refine vb_tq (v := .ref (ad 3)) hx hb hV.1.2.2 hS (by unfold vp_in; decide) rfl dX12_clause_21 ?_
      refine lv_astore (lv' := [(5, .ref (ad 3)), (0, .ref h0), (1, .int 3), (2, .int x2), (3, .int x3), (4, .int x4)]) hx hb dX12_clause_22 hl (by decide) rfl (fun ls hl => ?_)
      refine lv_iload_n hx hb dX12_clause_24 rfl (lv_at hl 3 rfl) ?_
      refine lv_aload hx hb dX12_clause_25 (lv_at hl 0 rfl) ?_
      refine va_getE (i := 3) hx hb hV.1.1 (by decide) hS hown (q := kdQ "least" [0, 0, 0, -9, 0, 0, 0, 0, 0, 0, 0, 0, -99]) (List.mem_of_getElem? (i := 1) rfl) (hts (.fieldLink RX12 132 "ClauseBook$Kind" "least" "I") (List.mem_of_getElem? (i := 1) rfl)) (fun _ h9 => h9) dX12_clause_27 ?_
      refine W.eq (g2 := F0 m 30 ls [.int (-9), .int x2]) rfl ?_
      refine lv_aload hx hb dX12_clause_30 (lv_at hl 0 rfl) ?_
      refine va_getE (i := 3) hx hb hV.1.1 (by decide) hS hown (q := kdQ "most" [0, 0, 0, 9, 0, 0, 0, 0, 6, 0, 0, 0, 99]) (List.mem_of_getElem? (i := 2) rfl) (hts (.fieldLink RX12 135 "ClauseBook$Kind" "most" "I") (List.mem_of_getElem? (i := 2) rfl)) (fun _ h9 => h9) dX12_clause_32 ?_
      refine W.eq (g2 := F0 m 35 ls [.int 9, .int (-9), .int x2]) rfl ?_
      refine vp_callSi (W.runS (As := [.int x2, .int (-9), .int 9]) (rest := []) ⟨hx, hb, hml, hown, hts⟩ (c_X12_within l D T x2 (-9) 9 (-9) 9 (by decide) (by decide)) (va_cwS 3 hts gX12_clause_X12_within rfl rfl rfl (by decide +kernel) ⟨Nat.le_of_ble_eq_true rfl, Nat.le_of_ble_eq_true rfl⟩) (pR_S hP hE [] rfl) rfl rfl hl.1 rfl (lv_room (Nat.le_of_ble_eq_true rfl)) dX12_clause_35 ⟨Nat.le_of_ble_eq_true rfl, Nat.le_of_ble_eq_true rfl⟩) (fun r_19 hr_19 => ?_)
      rcases bool_post hr_19 with ⟨c_20, rfl⟩ | ⟨c_20, rfl⟩
      · refine lv_if_eq (tgt := 59) hx hb dX12_clause_38 (by decide) (fun c9 => absurd c9 (by decide)) (fun _ => ?_)
        refine lv_aload hx hb dX12_clause_41 (lv_at hl 0 rfl) ?_
        refine lv_iload_n hx hb dX12_clause_43 rfl (lv_at hl 4 rfl) ?_
        refine lv_iload hx hb dX12_clause_44 (lv_at hl 5 rfl) ?_
        refine lv_aload_n hx hb dX12_clause_46 rfl (lv_at hl 1 rfl) ?_
        refine va_get (D := D) (ci := 9) (v := .ref h1) (C := RX12) (T := TX12) (N := 11) hx hb hts in_X12_clause_X12 hown hE.1 hP 0 rfl rfl 4 (by decide) (hts (.fieldLink RX12 32 "ClauseBook" "clauses" "LClauseBook$Clauses;") (List.mem_of_getElem? (i := 3) rfl)) (fun _ h9 => h9) e0_4 dX12_clause_47 ?_
        refine va_get (D := D) (ci := 1) (v := .int 0) (C := RX2) (T := TX2) (N := 8) hx hb hts in_X12_clause_X2 hown hE.1 hP 1 rfl rfl 0 (by decide) (hts (.fieldLink RX12 138 "ClauseBook$Clauses" "size" "I") (List.mem_of_getElem? (i := 4) rfl)) (fun _ h9 => h9) rfl dX12_clause_50 ?_
        refine vp_callSi (W.runV (As := [.int x3, .int x4, .int 0]) (rest := []) ⟨hx, hb, hml, hown, hts⟩ (f_X7_mayName_3 l D T ad sa av ta x3 x4) (cwV 3 hts gX12_clause_X7_mayName rfl rfl rfl (by decide +kernel) ⟨Nat.le_of_ble_eq_true rfl, Nat.le_of_ble_eq_true rfl⟩) (pRk_VE (i := 3) (by decide) hP hE hV hS [] rfl) rfl rfl hl.1 rfl (lv_room (Nat.le_of_ble_eq_true rfl)) dX12_clause_53 ⟨Nat.le_of_ble_eq_true rfl, Nat.le_of_ble_eq_true rfl⟩) (fun r_21 hr_21 => ?_)
        obtain rfl : r_21 = 0 := hr_21
        refine lv_if_ne (tgt := 62) hx hb dX12_clause_56 (by decide) (fun c9 => absurd c9 (by decide)) (fun _ => ?_)
        refine lv_bipush (v := (-2)) hx hb dX12_clause_59 (by decide) ?_
        exact W.iret hx hb hr (fun t ht hW => ⟨⟨_, (), rfl, (by unfold sp_clause; (repeat' split) <;> first | rfl | (exfalso; omega)), by rw [ht]; exact hP.sub [] rfl, hD.sub [] (by decide) rfl⟩, hS.F ht⟩) hS.2.2 dX12_clause_61
      · refine lv_if_eq (tgt := 59) hx hb dX12_clause_38 (by decide) (fun _ => ?_) (fun c9 => absurd c9 (by decide))
        refine lv_bipush (v := (-2)) hx hb dX12_clause_59 (by decide) ?_
        exact W.iret hx hb hr (fun t ht hW => ⟨⟨_, (), rfl, (by unfold sp_clause; (repeat' split) <;> first | rfl | (exfalso; omega)), by rw [ht]; exact hP.sub [] rfl, hD.sub [] (by decide) rfl⟩, hS.F ht⟩) hS.2.2 dX12_clause_61
    · have h9t := ti_4
      refine va_getsN (v := .ref ta) hx hb hV.1.2.1 hS hown (va_Nw.use rfl (hE.2.2.1 _ (List.mem_of_getElem? (i := 0) rfl))) (fun _ h9 => h9) dX12_clause_17 ?_
      refine lv_iload_n hx hb dX12_clause_20 rfl (lv_at hl 1 rfl) ?_
      refine vb_tq (v := .ref (ad 4)) hx hb hV.1.2.2 hS (by unfold vp_in; decide) rfl dX12_clause_21 ?_
      refine lv_astore (lv' := [(5, .ref (ad 4)), (0, .ref h0), (1, .int 4), (2, .int x2), (3, .int x3), (4, .int x4)]) hx hb dX12_clause_22 hl (by decide) rfl (fun ls hl => ?_)
      refine lv_iload_n hx hb dX12_clause_24 rfl (lv_at hl 3 rfl) ?_
      refine lv_aload hx hb dX12_clause_25 (lv_at hl 0 rfl) ?_
      refine va_getE (i := 4) hx hb hV.1.1 (by decide) hS hown (q := kdQ "least" [0, 0, 0, -9, 0, 0, 0, 0, 0, 0, 0, 0, -99]) (List.mem_of_getElem? (i := 1) rfl) (hts (.fieldLink RX12 132 "ClauseBook$Kind" "least" "I") (List.mem_of_getElem? (i := 1) rfl)) (fun _ h9 => h9) dX12_clause_27 ?_
      refine W.eq (g2 := F0 m 30 ls [.int 0, .int x2]) rfl ?_
      refine lv_aload hx hb dX12_clause_30 (lv_at hl 0 rfl) ?_
      refine va_getE (i := 4) hx hb hV.1.1 (by decide) hS hown (q := kdQ "most" [0, 0, 0, 9, 0, 0, 0, 0, 6, 0, 0, 0, 99]) (List.mem_of_getElem? (i := 2) rfl) (hts (.fieldLink RX12 135 "ClauseBook$Kind" "most" "I") (List.mem_of_getElem? (i := 2) rfl)) (fun _ h9 => h9) dX12_clause_32 ?_
      refine W.eq (g2 := F0 m 35 ls [.int 0, .int 0, .int x2]) rfl ?_
      refine vp_callSi (W.runS (As := [.int x2, .int 0, .int 0]) (rest := []) ⟨hx, hb, hml, hown, hts⟩ (c_X12_within l D T x2 0 0 0 0 (by decide) (by decide)) (va_cwS 3 hts gX12_clause_X12_within rfl rfl rfl (by decide +kernel) ⟨Nat.le_of_ble_eq_true rfl, Nat.le_of_ble_eq_true rfl⟩) (pR_S hP hE [] rfl) rfl rfl hl.1 rfl (lv_room (Nat.le_of_ble_eq_true rfl)) dX12_clause_35 ⟨Nat.le_of_ble_eq_true rfl, Nat.le_of_ble_eq_true rfl⟩) (fun r_22 hr_22 => ?_)
      rcases bool_post hr_22 with ⟨c_23, rfl⟩ | ⟨c_23, rfl⟩
      · refine lv_if_eq (tgt := 59) hx hb dX12_clause_38 (by decide) (fun c9 => absurd c9 (by decide)) (fun _ => ?_)
        refine lv_aload hx hb dX12_clause_41 (lv_at hl 0 rfl) ?_
        refine lv_iload_n hx hb dX12_clause_43 rfl (lv_at hl 4 rfl) ?_
        refine lv_iload hx hb dX12_clause_44 (lv_at hl 5 rfl) ?_
        refine lv_aload_n hx hb dX12_clause_46 rfl (lv_at hl 1 rfl) ?_
        refine va_get (D := D) (ci := 9) (v := .ref h1) (C := RX12) (T := TX12) (N := 11) hx hb hts in_X12_clause_X12 hown hE.1 hP 0 rfl rfl 4 (by decide) (hts (.fieldLink RX12 32 "ClauseBook" "clauses" "LClauseBook$Clauses;") (List.mem_of_getElem? (i := 3) rfl)) (fun _ h9 => h9) e0_4 dX12_clause_47 ?_
        refine va_get (D := D) (ci := 1) (v := .int 0) (C := RX2) (T := TX2) (N := 8) hx hb hts in_X12_clause_X2 hown hE.1 hP 1 rfl rfl 0 (by decide) (hts (.fieldLink RX12 138 "ClauseBook$Clauses" "size" "I") (List.mem_of_getElem? (i := 4) rfl)) (fun _ h9 => h9) rfl dX12_clause_50 ?_
        refine vp_callSi (W.runV (As := [.int x3, .int x4, .int 0]) (rest := []) ⟨hx, hb, hml, hown, hts⟩ (f_X7_mayName_4 l D T ad sa av ta x3 x4) (cwV 3 hts gX12_clause_X7_mayName rfl rfl rfl (by decide +kernel) ⟨Nat.le_of_ble_eq_true rfl, Nat.le_of_ble_eq_true rfl⟩) (pRk_VE (i := 4) (by decide) hP hE hV hS [] rfl) rfl rfl hl.1 rfl (lv_room (Nat.le_of_ble_eq_true rfl)) dX12_clause_53 ⟨Nat.le_of_ble_eq_true rfl, Nat.le_of_ble_eq_true rfl⟩) (fun r_24 hr_24 => ?_)
        obtain rfl : r_24 = 0 := hr_24
        refine lv_if_ne (tgt := 62) hx hb dX12_clause_56 (by decide) (fun c9 => absurd c9 (by decide)) (fun _ => ?_)
        refine lv_bipush (v := (-2)) hx hb dX12_clause_59 (by decide) ?_
        exact W.iret hx hb hr (fun t ht hW => ⟨⟨_, (), rfl, (by unfold sp_clause; (repeat' split) <;> first | rfl | (exfalso; omega)), by rw [ht]; exact hP.sub [] rfl, hD.sub [] (by decide) rfl⟩, hS.F ht⟩) hS.2.2 dX12_clause_61
      · refine lv_if_eq (tgt := 59) hx hb dX12_clause_38 (by decide) (fun _ => ?_) (fun c9 => absurd c9 (by decide))
        refine lv_bipush (v := (-2)) hx hb dX12_clause_59 (by decide) ?_
        exact W.iret hx hb hr (fun t ht hW => ⟨⟨_, (), rfl, (by unfold sp_clause; (repeat' split) <;> first | rfl | (exfalso; omega)), by rw [ht]; exact hP.sub [] rfl, hD.sub [] (by decide) rfl⟩, hS.F ht⟩) hS.2.2 dX12_clause_61
    · have h9t := ti_5
      refine va_getsN (v := .ref ta) hx hb hV.1.2.1 hS hown (va_Nw.use rfl (hE.2.2.1 _ (List.mem_of_getElem? (i := 0) rfl))) (fun _ h9 => h9) dX12_clause_17 ?_
      refine lv_iload_n hx hb dX12_clause_20 rfl (lv_at hl 1 rfl) ?_
      refine vb_tq (v := .ref (ad 5)) hx hb hV.1.2.2 hS (by unfold vp_in; decide) rfl dX12_clause_21 ?_
      refine lv_astore (lv' := [(5, .ref (ad 5)), (0, .ref h0), (1, .int 5), (2, .int x2), (3, .int x3), (4, .int x4)]) hx hb dX12_clause_22 hl (by decide) rfl (fun ls hl => ?_)
      refine lv_iload_n hx hb dX12_clause_24 rfl (lv_at hl 3 rfl) ?_
      refine lv_aload hx hb dX12_clause_25 (lv_at hl 0 rfl) ?_
      refine va_getE (i := 5) hx hb hV.1.1 (by decide) hS hown (q := kdQ "least" [0, 0, 0, -9, 0, 0, 0, 0, 0, 0, 0, 0, -99]) (List.mem_of_getElem? (i := 1) rfl) (hts (.fieldLink RX12 132 "ClauseBook$Kind" "least" "I") (List.mem_of_getElem? (i := 1) rfl)) (fun _ h9 => h9) dX12_clause_27 ?_
      refine W.eq (g2 := F0 m 30 ls [.int 0, .int x2]) rfl ?_
      refine lv_aload hx hb dX12_clause_30 (lv_at hl 0 rfl) ?_
      refine va_getE (i := 5) hx hb hV.1.1 (by decide) hS hown (q := kdQ "most" [0, 0, 0, 9, 0, 0, 0, 0, 6, 0, 0, 0, 99]) (List.mem_of_getElem? (i := 2) rfl) (hts (.fieldLink RX12 135 "ClauseBook$Kind" "most" "I") (List.mem_of_getElem? (i := 2) rfl)) (fun _ h9 => h9) dX12_clause_32 ?_
      refine W.eq (g2 := F0 m 35 ls [.int 0, .int 0, .int x2]) rfl ?_
      refine vp_callSi (W.runS (As := [.int x2, .int 0, .int 0]) (rest := []) ⟨hx, hb, hml, hown, hts⟩ (c_X12_within l D T x2 0 0 0 0 (by decide) (by decide)) (va_cwS 3 hts gX12_clause_X12_within rfl rfl rfl (by decide +kernel) ⟨Nat.le_of_ble_eq_true rfl, Nat.le_of_ble_eq_true rfl⟩) (pR_S hP hE [] rfl) rfl rfl hl.1 rfl (lv_room (Nat.le_of_ble_eq_true rfl)) dX12_clause_35 ⟨Nat.le_of_ble_eq_true rfl, Nat.le_of_ble_eq_true rfl⟩) (fun r_25 hr_25 => ?_)
      rcases bool_post hr_25 with ⟨c_26, rfl⟩ | ⟨c_26, rfl⟩
      · refine lv_if_eq (tgt := 59) hx hb dX12_clause_38 (by decide) (fun c9 => absurd c9 (by decide)) (fun _ => ?_)
        refine lv_aload hx hb dX12_clause_41 (lv_at hl 0 rfl) ?_
        refine lv_iload_n hx hb dX12_clause_43 rfl (lv_at hl 4 rfl) ?_
        refine lv_iload hx hb dX12_clause_44 (lv_at hl 5 rfl) ?_
        refine lv_aload_n hx hb dX12_clause_46 rfl (lv_at hl 1 rfl) ?_
        refine va_get (D := D) (ci := 9) (v := .ref h1) (C := RX12) (T := TX12) (N := 11) hx hb hts in_X12_clause_X12 hown hE.1 hP 0 rfl rfl 4 (by decide) (hts (.fieldLink RX12 32 "ClauseBook" "clauses" "LClauseBook$Clauses;") (List.mem_of_getElem? (i := 3) rfl)) (fun _ h9 => h9) e0_4 dX12_clause_47 ?_
        refine va_get (D := D) (ci := 1) (v := .int 0) (C := RX2) (T := TX2) (N := 8) hx hb hts in_X12_clause_X2 hown hE.1 hP 1 rfl rfl 0 (by decide) (hts (.fieldLink RX12 138 "ClauseBook$Clauses" "size" "I") (List.mem_of_getElem? (i := 4) rfl)) (fun _ h9 => h9) rfl dX12_clause_50 ?_
        refine vp_callSi (W.runV (As := [.int x3, .int x4, .int 0]) (rest := []) ⟨hx, hb, hml, hown, hts⟩ (f_X7_mayName_5 l D T ad sa av ta x3 x4) (cwV 3 hts gX12_clause_X7_mayName rfl rfl rfl (by decide +kernel) ⟨Nat.le_of_ble_eq_true rfl, Nat.le_of_ble_eq_true rfl⟩) (pRk_VE (i := 5) (by decide) hP hE hV hS [] rfl) rfl rfl hl.1 rfl (lv_room (Nat.le_of_ble_eq_true rfl)) dX12_clause_53 ⟨Nat.le_of_ble_eq_true rfl, Nat.le_of_ble_eq_true rfl⟩) (fun r_27 hr_27 => ?_)
        obtain rfl : r_27 = 0 := hr_27
        refine lv_if_ne (tgt := 62) hx hb dX12_clause_56 (by decide) (fun c9 => absurd c9 (by decide)) (fun _ => ?_)
        refine lv_bipush (v := (-2)) hx hb dX12_clause_59 (by decide) ?_
        exact W.iret hx hb hr (fun t ht hW => ⟨⟨_, (), rfl, (by unfold sp_clause; (repeat' split) <;> first | rfl | (exfalso; omega)), by rw [ht]; exact hP.sub [] rfl, hD.sub [] (by decide) rfl⟩, hS.F ht⟩) hS.2.2 dX12_clause_61
      · refine lv_if_eq (tgt := 59) hx hb dX12_clause_38 (by decide) (fun _ => ?_) (fun c9 => absurd c9 (by decide))
        refine lv_bipush (v := (-2)) hx hb dX12_clause_59 (by decide) ?_
        exact W.iret hx hb hr (fun t ht hW => ⟨⟨_, (), rfl, (by unfold sp_clause; (repeat' split) <;> first | rfl | (exfalso; omega)), by rw [ht]; exact hP.sub [] rfl, hD.sub [] (by decide) rfl⟩, hS.F ht⟩) hS.2.2 dX12_clause_61
    · have h9t := ti_6
      refine va_getsN (v := .ref ta) hx hb hV.1.2.1 hS hown (va_Nw.use rfl (hE.2.2.1 _ (List.mem_of_getElem? (i := 0) rfl))) (fun _ h9 => h9) dX12_clause_17 ?_
      refine lv_iload_n hx hb dX12_clause_20 rfl (lv_at hl 1 rfl) ?_
      refine vb_tq (v := .ref (ad 6)) hx hb hV.1.2.2 hS (by unfold vp_in; decide) rfl dX12_clause_21 ?_
      refine lv_astore (lv' := [(5, .ref (ad 6)), (0, .ref h0), (1, .int 6), (2, .int x2), (3, .int x3), (4, .int x4)]) hx hb dX12_clause_22 hl (by decide) rfl (fun ls hl => ?_)
      refine lv_iload_n hx hb dX12_clause_24 rfl (lv_at hl 3 rfl) ?_
      refine lv_aload hx hb dX12_clause_25 (lv_at hl 0 rfl) ?_
      refine va_getE (i := 6) hx hb hV.1.1 (by decide) hS hown (q := kdQ "least" [0, 0, 0, -9, 0, 0, 0, 0, 0, 0, 0, 0, -99]) (List.mem_of_getElem? (i := 1) rfl) (hts (.fieldLink RX12 132 "ClauseBook$Kind" "least" "I") (List.mem_of_getElem? (i := 1) rfl)) (fun _ h9 => h9) dX12_clause_27 ?_
      refine W.eq (g2 := F0 m 30 ls [.int 0, .int x2]) rfl ?_
      refine lv_aload hx hb dX12_clause_30 (lv_at hl 0 rfl) ?_
      refine va_getE (i := 6) hx hb hV.1.1 (by decide) hS hown (q := kdQ "most" [0, 0, 0, 9, 0, 0, 0, 0, 6, 0, 0, 0, 99]) (List.mem_of_getElem? (i := 2) rfl) (hts (.fieldLink RX12 135 "ClauseBook$Kind" "most" "I") (List.mem_of_getElem? (i := 2) rfl)) (fun _ h9 => h9) dX12_clause_32 ?_
      refine W.eq (g2 := F0 m 35 ls [.int 0, .int 0, .int x2]) rfl ?_
      refine vp_callSi (W.runS (As := [.int x2, .int 0, .int 0]) (rest := []) ⟨hx, hb, hml, hown, hts⟩ (c_X12_within l D T x2 0 0 0 0 (by decide) (by decide)) (va_cwS 3 hts gX12_clause_X12_within rfl rfl rfl (by decide +kernel) ⟨Nat.le_of_ble_eq_true rfl, Nat.le_of_ble_eq_true rfl⟩) (pR_S hP hE [] rfl) rfl rfl hl.1 rfl (lv_room (Nat.le_of_ble_eq_true rfl)) dX12_clause_35 ⟨Nat.le_of_ble_eq_true rfl, Nat.le_of_ble_eq_true rfl⟩) (fun r_28 hr_28 => ?_)
      rcases bool_post hr_28 with ⟨c_29, rfl⟩ | ⟨c_29, rfl⟩
      · refine lv_if_eq (tgt := 59) hx hb dX12_clause_38 (by decide) (fun c9 => absurd c9 (by decide)) (fun _ => ?_)
        refine lv_aload hx hb dX12_clause_41 (lv_at hl 0 rfl) ?_
        refine lv_iload_n hx hb dX12_clause_43 rfl (lv_at hl 4 rfl) ?_
        refine lv_iload hx hb dX12_clause_44 (lv_at hl 5 rfl) ?_
        refine lv_aload_n hx hb dX12_clause_46 rfl (lv_at hl 1 rfl) ?_
        refine va_get (D := D) (ci := 9) (v := .ref h1) (C := RX12) (T := TX12) (N := 11) hx hb hts in_X12_clause_X12 hown hE.1 hP 0 rfl rfl 4 (by decide) (hts (.fieldLink RX12 32 "ClauseBook" "clauses" "LClauseBook$Clauses;") (List.mem_of_getElem? (i := 3) rfl)) (fun _ h9 => h9) e0_4 dX12_clause_47 ?_
        refine va_get (D := D) (ci := 1) (v := .int 0) (C := RX2) (T := TX2) (N := 8) hx hb hts in_X12_clause_X2 hown hE.1 hP 1 rfl rfl 0 (by decide) (hts (.fieldLink RX12 138 "ClauseBook$Clauses" "size" "I") (List.mem_of_getElem? (i := 4) rfl)) (fun _ h9 => h9) rfl dX12_clause_50 ?_
        refine vp_callSi (W.runV (As := [.int x3, .int x4, .int 0]) (rest := []) ⟨hx, hb, hml, hown, hts⟩ (f_X7_mayName_6 l D T ad sa av ta x3 x4) (cwV 3 hts gX12_clause_X7_mayName rfl rfl rfl (by decide +kernel) ⟨Nat.le_of_ble_eq_true rfl, Nat.le_of_ble_eq_true rfl⟩) (pRk_VE (i := 6) (by decide) hP hE hV hS [] rfl) rfl rfl hl.1 rfl (lv_room (Nat.le_of_ble_eq_true rfl)) dX12_clause_53 ⟨Nat.le_of_ble_eq_true rfl, Nat.le_of_ble_eq_true rfl⟩) (fun r_30 hr_30 => ?_)
        obtain rfl : r_30 = 0 := hr_30
        refine lv_if_ne (tgt := 62) hx hb dX12_clause_56 (by decide) (fun c9 => absurd c9 (by decide)) (fun _ => ?_)
        refine lv_bipush (v := (-2)) hx hb dX12_clause_59 (by decide) ?_
        exact W.iret hx hb hr (fun t ht hW => ⟨⟨_, (), rfl, (by unfold sp_clause; (repeat' split) <;> first | rfl | (exfalso; omega)), by rw [ht]; exact hP.sub [] rfl, hD.sub [] (by decide) rfl⟩, hS.F ht⟩) hS.2.2 dX12_clause_61
      · refine lv_if_eq (tgt := 59) hx hb dX12_clause_38 (by decide) (fun _ => ?_) (fun c9 => absurd c9 (by decide))
        refine lv_bipush (v := (-2)) hx hb dX12_clause_59 (by decide) ?_
        exact W.iret hx hb hr (fun t ht hW => ⟨⟨_, (), rfl, (by unfold sp_clause; (repeat' split) <;> first | rfl | (exfalso; omega)), by rw [ht]; exact hP.sub [] rfl, hD.sub [] (by decide) rfl⟩, hS.F ht⟩) hS.2.2 dX12_clause_61
    · have h9t := ti_7
      refine va_getsN (v := .ref ta) hx hb hV.1.2.1 hS hown (va_Nw.use rfl (hE.2.2.1 _ (List.mem_of_getElem? (i := 0) rfl))) (fun _ h9 => h9) dX12_clause_17 ?_
      refine lv_iload_n hx hb dX12_clause_20 rfl (lv_at hl 1 rfl) ?_
      refine vb_tq (v := .ref (ad 7)) hx hb hV.1.2.2 hS (by unfold vp_in; decide) rfl dX12_clause_21 ?_
      refine lv_astore (lv' := [(5, .ref (ad 7)), (0, .ref h0), (1, .int 7), (2, .int x2), (3, .int x3), (4, .int x4)]) hx hb dX12_clause_22 hl (by decide) rfl (fun ls hl => ?_)
      refine lv_iload_n hx hb dX12_clause_24 rfl (lv_at hl 3 rfl) ?_
      refine lv_aload hx hb dX12_clause_25 (lv_at hl 0 rfl) ?_
      refine va_getE (i := 7) hx hb hV.1.1 (by decide) hS hown (q := kdQ "least" [0, 0, 0, -9, 0, 0, 0, 0, 0, 0, 0, 0, -99]) (List.mem_of_getElem? (i := 1) rfl) (hts (.fieldLink RX12 132 "ClauseBook$Kind" "least" "I") (List.mem_of_getElem? (i := 1) rfl)) (fun _ h9 => h9) dX12_clause_27 ?_
      refine W.eq (g2 := F0 m 30 ls [.int 0, .int x2]) rfl ?_
      refine lv_aload hx hb dX12_clause_30 (lv_at hl 0 rfl) ?_
      refine va_getE (i := 7) hx hb hV.1.1 (by decide) hS hown (q := kdQ "most" [0, 0, 0, 9, 0, 0, 0, 0, 6, 0, 0, 0, 99]) (List.mem_of_getElem? (i := 2) rfl) (hts (.fieldLink RX12 135 "ClauseBook$Kind" "most" "I") (List.mem_of_getElem? (i := 2) rfl)) (fun _ h9 => h9) dX12_clause_32 ?_
      refine W.eq (g2 := F0 m 35 ls [.int 0, .int 0, .int x2]) rfl ?_
      refine vp_callSi (W.runS (As := [.int x2, .int 0, .int 0]) (rest := []) ⟨hx, hb, hml, hown, hts⟩ (c_X12_within l D T x2 0 0 0 0 (by decide) (by decide)) (va_cwS 3 hts gX12_clause_X12_within rfl rfl rfl (by decide +kernel) ⟨Nat.le_of_ble_eq_true rfl, Nat.le_of_ble_eq_true rfl⟩) (pR_S hP hE [] rfl) rfl rfl hl.1 rfl (lv_room (Nat.le_of_ble_eq_true rfl)) dX12_clause_35 ⟨Nat.le_of_ble_eq_true rfl, Nat.le_of_ble_eq_true rfl⟩) (fun r_31 hr_31 => ?_)
      rcases bool_post hr_31 with ⟨c_32, rfl⟩ | ⟨c_32, rfl⟩
      · refine lv_if_eq (tgt := 59) hx hb dX12_clause_38 (by decide) (fun c9 => absurd c9 (by decide)) (fun _ => ?_)
        refine lv_aload hx hb dX12_clause_41 (lv_at hl 0 rfl) ?_
        refine lv_iload_n hx hb dX12_clause_43 rfl (lv_at hl 4 rfl) ?_
        refine lv_iload hx hb dX12_clause_44 (lv_at hl 5 rfl) ?_
        refine lv_aload_n hx hb dX12_clause_46 rfl (lv_at hl 1 rfl) ?_
        refine va_get (D := D) (ci := 9) (v := .ref h1) (C := RX12) (T := TX12) (N := 11) hx hb hts in_X12_clause_X12 hown hE.1 hP 0 rfl rfl 4 (by decide) (hts (.fieldLink RX12 32 "ClauseBook" "clauses" "LClauseBook$Clauses;") (List.mem_of_getElem? (i := 3) rfl)) (fun _ h9 => h9) e0_4 dX12_clause_47 ?_
        refine va_get (D := D) (ci := 1) (v := .int 0) (C := RX2) (T := TX2) (N := 8) hx hb hts in_X12_clause_X2 hown hE.1 hP 1 rfl rfl 0 (by decide) (hts (.fieldLink RX12 138 "ClauseBook$Clauses" "size" "I") (List.mem_of_getElem? (i := 4) rfl)) (fun _ h9 => h9) rfl dX12_clause_50 ?_
        refine vp_callSi (W.runV (As := [.int x3, .int x4, .int 0]) (rest := []) ⟨hx, hb, hml, hown, hts⟩ (f_X7_mayName_7 l D T ad sa av ta x3 x4) (cwV 3 hts gX12_clause_X7_mayName rfl rfl rfl (by decide +kernel) ⟨Nat.le_of_ble_eq_true rfl, Nat.le_of_ble_eq_true rfl⟩) (pRk_VE (i := 7) (by decide) hP hE hV hS [] rfl) rfl rfl hl.1 rfl (lv_room (Nat.le_of_ble_eq_true rfl)) dX12_clause_53 ⟨Nat.le_of_ble_eq_true rfl, Nat.le_of_ble_eq_true rfl⟩) (fun r_33 hr_33 => ?_)
        obtain rfl : r_33 = 0 := hr_33
        refine lv_if_ne (tgt := 62) hx hb dX12_clause_56 (by decide) (fun c9 => absurd c9 (by decide)) (fun _ => ?_)
        refine lv_bipush (v := (-2)) hx hb dX12_clause_59 (by decide) ?_
        exact W.iret hx hb hr (fun t ht hW => ⟨⟨_, (), rfl, (by unfold sp_clause; (repeat' split) <;> first | rfl | (exfalso; omega)), by rw [ht]; exact hP.sub [] rfl, hD.sub [] (by decide) rfl⟩, hS.F ht⟩) hS.2.2 dX12_clause_61
      · refine lv_if_eq (tgt := 59) hx hb dX12_clause_38 (by decide) (fun _ => ?_) (fun c9 => absurd c9 (by decide))
        refine lv_bipush (v := (-2)) hx hb dX12_clause_59 (by decide) ?_
        exact W.iret hx hb hr (fun t ht hW => ⟨⟨_, (), rfl, (by unfold sp_clause; (repeat' split) <;> first | rfl | (exfalso; omega)), by rw [ht]; exact hP.sub [] rfl, hD.sub [] (by decide) rfl⟩, hS.F ht⟩) hS.2.2 dX12_clause_61
    · have h9t := ti_8
      refine va_getsN (v := .ref ta) hx hb hV.1.2.1 hS hown (va_Nw.use rfl (hE.2.2.1 _ (List.mem_of_getElem? (i := 0) rfl))) (fun _ h9 => h9) dX12_clause_17 ?_
      refine lv_iload_n hx hb dX12_clause_20 rfl (lv_at hl 1 rfl) ?_
      refine vb_tq (v := .ref (ad 8)) hx hb hV.1.2.2 hS (by unfold vp_in; decide) rfl dX12_clause_21 ?_
      refine lv_astore (lv' := [(5, .ref (ad 8)), (0, .ref h0), (1, .int 8), (2, .int x2), (3, .int x3), (4, .int x4)]) hx hb dX12_clause_22 hl (by decide) rfl (fun ls hl => ?_)
      refine lv_iload_n hx hb dX12_clause_24 rfl (lv_at hl 3 rfl) ?_
      refine lv_aload hx hb dX12_clause_25 (lv_at hl 0 rfl) ?_
      refine va_getE (i := 8) hx hb hV.1.1 (by decide) hS hown (q := kdQ "least" [0, 0, 0, -9, 0, 0, 0, 0, 0, 0, 0, 0, -99]) (List.mem_of_getElem? (i := 1) rfl) (hts (.fieldLink RX12 132 "ClauseBook$Kind" "least" "I") (List.mem_of_getElem? (i := 1) rfl)) (fun _ h9 => h9) dX12_clause_27 ?_
      refine W.eq (g2 := F0 m 30 ls [.int 0, .int x2]) rfl ?_
      refine lv_aload hx hb dX12_clause_30 (lv_at hl 0 rfl) ?_
      refine va_getE (i := 8) hx hb hV.1.1 (by decide) hS hown (q := kdQ "most" [0, 0, 0, 9, 0, 0, 0, 0, 6, 0, 0, 0, 99]) (List.mem_of_getElem? (i := 2) rfl) (hts (.fieldLink RX12 135 "ClauseBook$Kind" "most" "I") (List.mem_of_getElem? (i := 2) rfl)) (fun _ h9 => h9) dX12_clause_32 ?_
      refine W.eq (g2 := F0 m 35 ls [.int 6, .int 0, .int x2]) rfl ?_
      refine vp_callSi (W.runS (As := [.int x2, .int 0, .int 6]) (rest := []) ⟨hx, hb, hml, hown, hts⟩ (c_X12_within l D T x2 0 6 0 6 (by decide) (by decide)) (va_cwS 3 hts gX12_clause_X12_within rfl rfl rfl (by decide +kernel) ⟨Nat.le_of_ble_eq_true rfl, Nat.le_of_ble_eq_true rfl⟩) (pR_S hP hE [] rfl) rfl rfl hl.1 rfl (lv_room (Nat.le_of_ble_eq_true rfl)) dX12_clause_35 ⟨Nat.le_of_ble_eq_true rfl, Nat.le_of_ble_eq_true rfl⟩) (fun r_34 hr_34 => ?_)
      rcases bool_post hr_34 with ⟨c_35, rfl⟩ | ⟨c_35, rfl⟩
      · refine lv_if_eq (tgt := 59) hx hb dX12_clause_38 (by decide) (fun c9 => absurd c9 (by decide)) (fun _ => ?_)
        refine lv_aload hx hb dX12_clause_41 (lv_at hl 0 rfl) ?_
        refine lv_iload_n hx hb dX12_clause_43 rfl (lv_at hl 4 rfl) ?_
        refine lv_iload hx hb dX12_clause_44 (lv_at hl 5 rfl) ?_
        refine lv_aload_n hx hb dX12_clause_46 rfl (lv_at hl 1 rfl) ?_
        refine va_get (D := D) (ci := 9) (v := .ref h1) (C := RX12) (T := TX12) (N := 11) hx hb hts in_X12_clause_X12 hown hE.1 hP 0 rfl rfl 4 (by decide) (hts (.fieldLink RX12 32 "ClauseBook" "clauses" "LClauseBook$Clauses;") (List.mem_of_getElem? (i := 3) rfl)) (fun _ h9 => h9) e0_4 dX12_clause_47 ?_
        refine va_get (D := D) (ci := 1) (v := .int 0) (C := RX2) (T := TX2) (N := 8) hx hb hts in_X12_clause_X2 hown hE.1 hP 1 rfl rfl 0 (by decide) (hts (.fieldLink RX12 138 "ClauseBook$Clauses" "size" "I") (List.mem_of_getElem? (i := 4) rfl)) (fun _ h9 => h9) rfl dX12_clause_50 ?_
        refine vp_callSi (W.runV (As := [.int x3, .int x4, .int 0]) (rest := []) ⟨hx, hb, hml, hown, hts⟩ (f_X7_mayName_8 l D T ad sa av ta x3 x4) (cwV 3 hts gX12_clause_X7_mayName rfl rfl rfl (by decide +kernel) ⟨Nat.le_of_ble_eq_true rfl, Nat.le_of_ble_eq_true rfl⟩) (pRk_VE (i := 8) (by decide) hP hE hV hS [] rfl) rfl rfl hl.1 rfl (lv_room (Nat.le_of_ble_eq_true rfl)) dX12_clause_53 ⟨Nat.le_of_ble_eq_true rfl, Nat.le_of_ble_eq_true rfl⟩) (fun r_36 hr_36 => ?_)
        obtain rfl : r_36 = 0 := hr_36
        refine lv_if_ne (tgt := 62) hx hb dX12_clause_56 (by decide) (fun c9 => absurd c9 (by decide)) (fun _ => ?_)
        refine lv_bipush (v := (-2)) hx hb dX12_clause_59 (by decide) ?_
        exact W.iret hx hb hr (fun t ht hW => ⟨⟨_, (), rfl, (by unfold sp_clause; (repeat' split) <;> first | rfl | (exfalso; omega)), by rw [ht]; exact hP.sub [] rfl, hD.sub [] (by decide) rfl⟩, hS.F ht⟩) hS.2.2 dX12_clause_61
      · refine lv_if_eq (tgt := 59) hx hb dX12_clause_38 (by decide) (fun _ => ?_) (fun c9 => absurd c9 (by decide))
        refine lv_bipush (v := (-2)) hx hb dX12_clause_59 (by decide) ?_
        exact W.iret hx hb hr (fun t ht hW => ⟨⟨_, (), rfl, (by unfold sp_clause; (repeat' split) <;> first | rfl | (exfalso; omega)), by rw [ht]; exact hP.sub [] rfl, hD.sub [] (by decide) rfl⟩, hS.F ht⟩) hS.2.2 dX12_clause_61
    · have h9t := ti_9
      refine va_getsN (v := .ref ta) hx hb hV.1.2.1 hS hown (va_Nw.use rfl (hE.2.2.1 _ (List.mem_of_getElem? (i := 0) rfl))) (fun _ h9 => h9) dX12_clause_17 ?_
      refine lv_iload_n hx hb dX12_clause_20 rfl (lv_at hl 1 rfl) ?_
      refine vb_tq (v := .ref (ad 9)) hx hb hV.1.2.2 hS (by unfold vp_in; decide) rfl dX12_clause_21 ?_
      refine lv_astore (lv' := [(5, .ref (ad 9)), (0, .ref h0), (1, .int 9), (2, .int x2), (3, .int x3), (4, .int x4)]) hx hb dX12_clause_22 hl (by decide) rfl (fun ls hl => ?_)
      refine lv_iload_n hx hb dX12_clause_24 rfl (lv_at hl 3 rfl) ?_
      refine lv_aload hx hb dX12_clause_25 (lv_at hl 0 rfl) ?_
      refine va_getE (i := 9) hx hb hV.1.1 (by decide) hS hown (q := kdQ "least" [0, 0, 0, -9, 0, 0, 0, 0, 0, 0, 0, 0, -99]) (List.mem_of_getElem? (i := 1) rfl) (hts (.fieldLink RX12 132 "ClauseBook$Kind" "least" "I") (List.mem_of_getElem? (i := 1) rfl)) (fun _ h9 => h9) dX12_clause_27 ?_
      refine W.eq (g2 := F0 m 30 ls [.int 0, .int x2]) rfl ?_
      refine lv_aload hx hb dX12_clause_30 (lv_at hl 0 rfl) ?_
      refine va_getE (i := 9) hx hb hV.1.1 (by decide) hS hown (q := kdQ "most" [0, 0, 0, 9, 0, 0, 0, 0, 6, 0, 0, 0, 99]) (List.mem_of_getElem? (i := 2) rfl) (hts (.fieldLink RX12 135 "ClauseBook$Kind" "most" "I") (List.mem_of_getElem? (i := 2) rfl)) (fun _ h9 => h9) dX12_clause_32 ?_
      refine W.eq (g2 := F0 m 35 ls [.int 0, .int 0, .int x2]) rfl ?_
      refine vp_callSi (W.runS (As := [.int x2, .int 0, .int 0]) (rest := []) ⟨hx, hb, hml, hown, hts⟩ (c_X12_within l D T x2 0 0 0 0 (by decide) (by decide)) (va_cwS 3 hts gX12_clause_X12_within rfl rfl rfl (by decide +kernel) ⟨Nat.le_of_ble_eq_true rfl, Nat.le_of_ble_eq_true rfl⟩) (pR_S hP hE [] rfl) rfl rfl hl.1 rfl (lv_room (Nat.le_of_ble_eq_true rfl)) dX12_clause_35 ⟨Nat.le_of_ble_eq_true rfl, Nat.le_of_ble_eq_true rfl⟩) (fun r_37 hr_37 => ?_)
      rcases bool_post hr_37 with ⟨c_38, rfl⟩ | ⟨c_38, rfl⟩
      · refine lv_if_eq (tgt := 59) hx hb dX12_clause_38 (by decide) (fun c9 => absurd c9 (by decide)) (fun _ => ?_)
        refine lv_aload hx hb dX12_clause_41 (lv_at hl 0 rfl) ?_
        refine lv_iload_n hx hb dX12_clause_43 rfl (lv_at hl 4 rfl) ?_
        refine lv_iload hx hb dX12_clause_44 (lv_at hl 5 rfl) ?_
        refine lv_aload_n hx hb dX12_clause_46 rfl (lv_at hl 1 rfl) ?_
        refine va_get (D := D) (ci := 9) (v := .ref h1) (C := RX12) (T := TX12) (N := 11) hx hb hts in_X12_clause_X12 hown hE.1 hP 0 rfl rfl 4 (by decide) (hts (.fieldLink RX12 32 "ClauseBook" "clauses" "LClauseBook$Clauses;") (List.mem_of_getElem? (i := 3) rfl)) (fun _ h9 => h9) e0_4 dX12_clause_47 ?_
        refine va_get (D := D) (ci := 1) (v := .int 0) (C := RX2) (T := TX2) (N := 8) hx hb hts in_X12_clause_X2 hown hE.1 hP 1 rfl rfl 0 (by decide) (hts (.fieldLink RX12 138 "ClauseBook$Clauses" "size" "I") (List.mem_of_getElem? (i := 4) rfl)) (fun _ h9 => h9) rfl dX12_clause_50 ?_
        refine vp_callSi (W.runV (As := [.int x3, .int x4, .int 0]) (rest := []) ⟨hx, hb, hml, hown, hts⟩ (f_X7_mayName_9 l D T ad sa av ta x3 x4) (cwV 3 hts gX12_clause_X7_mayName rfl rfl rfl (by decide +kernel) ⟨Nat.le_of_ble_eq_true rfl, Nat.le_of_ble_eq_true rfl⟩) (pRk_VE (i := 9) (by decide) hP hE hV hS [] rfl) rfl rfl hl.1 rfl (lv_room (Nat.le_of_ble_eq_true rfl)) dX12_clause_53 ⟨Nat.le_of_ble_eq_true rfl, Nat.le_of_ble_eq_true rfl⟩) (fun r_39 hr_39 => ?_)
        obtain rfl : r_39 = 0 := hr_39
        refine lv_if_ne (tgt := 62) hx hb dX12_clause_56 (by decide) (fun c9 => absurd c9 (by decide)) (fun _ => ?_)
        refine lv_bipush (v := (-2)) hx hb dX12_clause_59 (by decide) ?_
        exact W.iret hx hb hr (fun t ht hW => ⟨⟨_, (), rfl, (by unfold sp_clause; (repeat' split) <;> first | rfl | (exfalso; omega)), by rw [ht]; exact hP.sub [] rfl, hD.sub [] (by decide) rfl⟩, hS.F ht⟩) hS.2.2 dX12_clause_61
      · refine lv_if_eq (tgt := 59) hx hb dX12_clause_38 (by decide) (fun _ => ?_) (fun c9 => absurd c9 (by decide))
        refine lv_bipush (v := (-2)) hx hb dX12_clause_59 (by decide) ?_
        exact W.iret hx hb hr (fun t ht hW => ⟨⟨_, (), rfl, (by unfold sp_clause; (repeat' split) <;> first | rfl | (exfalso; omega)), by rw [ht]; exact hP.sub [] rfl, hD.sub [] (by decide) rfl⟩, hS.F ht⟩) hS.2.2 dX12_clause_61
    · have h9t := ti_10
      refine va_getsN (v := .ref ta) hx hb hV.1.2.1 hS hown (va_Nw.use rfl (hE.2.2.1 _ (List.mem_of_getElem? (i := 0) rfl))) (fun _ h9 => h9) dX12_clause_17 ?_
      refine lv_iload_n hx hb dX12_clause_20 rfl (lv_at hl 1 rfl) ?_
      refine vb_tq (v := .ref (ad 10)) hx hb hV.1.2.2 hS (by unfold vp_in; decide) rfl dX12_clause_21 ?_
      refine lv_astore (lv' := [(5, .ref (ad 10)), (0, .ref h0), (1, .int 10), (2, .int x2), (3, .int x3), (4, .int x4)]) hx hb dX12_clause_22 hl (by decide) rfl (fun ls hl => ?_)
      refine lv_iload_n hx hb dX12_clause_24 rfl (lv_at hl 3 rfl) ?_
      refine lv_aload hx hb dX12_clause_25 (lv_at hl 0 rfl) ?_
      refine va_getE (i := 10) hx hb hV.1.1 (by decide) hS hown (q := kdQ "least" [0, 0, 0, -9, 0, 0, 0, 0, 0, 0, 0, 0, -99]) (List.mem_of_getElem? (i := 1) rfl) (hts (.fieldLink RX12 132 "ClauseBook$Kind" "least" "I") (List.mem_of_getElem? (i := 1) rfl)) (fun _ h9 => h9) dX12_clause_27 ?_
      refine W.eq (g2 := F0 m 30 ls [.int 0, .int x2]) rfl ?_
      refine lv_aload hx hb dX12_clause_30 (lv_at hl 0 rfl) ?_
      refine va_getE (i := 10) hx hb hV.1.1 (by decide) hS hown (q := kdQ "most" [0, 0, 0, 9, 0, 0, 0, 0, 6, 0, 0, 0, 99]) (List.mem_of_getElem? (i := 2) rfl) (hts (.fieldLink RX12 135 "ClauseBook$Kind" "most" "I") (List.mem_of_getElem? (i := 2) rfl)) (fun _ h9 => h9) dX12_clause_32 ?_
      refine W.eq (g2 := F0 m 35 ls [.int 0, .int 0, .int x2]) rfl ?_
      refine vp_callSi (W.runS (As := [.int x2, .int 0, .int 0]) (rest := []) ⟨hx, hb, hml, hown, hts⟩ (c_X12_within l D T x2 0 0 0 0 (by decide) (by decide)) (va_cwS 3 hts gX12_clause_X12_within rfl rfl rfl (by decide +kernel) ⟨Nat.le_of_ble_eq_true rfl, Nat.le_of_ble_eq_true rfl⟩) (pR_S hP hE [] rfl) rfl rfl hl.1 rfl (lv_room (Nat.le_of_ble_eq_true rfl)) dX12_clause_35 ⟨Nat.le_of_ble_eq_true rfl, Nat.le_of_ble_eq_true rfl⟩) (fun r_40 hr_40 => ?_)
      rcases bool_post hr_40 with ⟨c_41, rfl⟩ | ⟨c_41, rfl⟩
      · refine lv_if_eq (tgt := 59) hx hb dX12_clause_38 (by decide) (fun c9 => absurd c9 (by decide)) (fun _ => ?_)
        refine lv_aload hx hb dX12_clause_41 (lv_at hl 0 rfl) ?_
        refine lv_iload_n hx hb dX12_clause_43 rfl (lv_at hl 4 rfl) ?_
        refine lv_iload hx hb dX12_clause_44 (lv_at hl 5 rfl) ?_
        refine lv_aload_n hx hb dX12_clause_46 rfl (lv_at hl 1 rfl) ?_
        refine va_get (D := D) (ci := 9) (v := .ref h1) (C := RX12) (T := TX12) (N := 11) hx hb hts in_X12_clause_X12 hown hE.1 hP 0 rfl rfl 4 (by decide) (hts (.fieldLink RX12 32 "ClauseBook" "clauses" "LClauseBook$Clauses;") (List.mem_of_getElem? (i := 3) rfl)) (fun _ h9 => h9) e0_4 dX12_clause_47 ?_
        refine va_get (D := D) (ci := 1) (v := .int 0) (C := RX2) (T := TX2) (N := 8) hx hb hts in_X12_clause_X2 hown hE.1 hP 1 rfl rfl 0 (by decide) (hts (.fieldLink RX12 138 "ClauseBook$Clauses" "size" "I") (List.mem_of_getElem? (i := 4) rfl)) (fun _ h9 => h9) rfl dX12_clause_50 ?_
        refine vp_callSi (W.runV (As := [.int x3, .int x4, .int 0]) (rest := []) ⟨hx, hb, hml, hown, hts⟩ (f_X7_mayName_10 l D T ad sa av ta x3 x4) (cwV 3 hts gX12_clause_X7_mayName rfl rfl rfl (by decide +kernel) ⟨Nat.le_of_ble_eq_true rfl, Nat.le_of_ble_eq_true rfl⟩) (pRk_VE (i := 10) (by decide) hP hE hV hS [] rfl) rfl rfl hl.1 rfl (lv_room (Nat.le_of_ble_eq_true rfl)) dX12_clause_53 ⟨Nat.le_of_ble_eq_true rfl, Nat.le_of_ble_eq_true rfl⟩) (fun r_42 hr_42 => ?_)
        obtain rfl : r_42 = 0 := hr_42
        refine lv_if_ne (tgt := 62) hx hb dX12_clause_56 (by decide) (fun c9 => absurd c9 (by decide)) (fun _ => ?_)
        refine lv_bipush (v := (-2)) hx hb dX12_clause_59 (by decide) ?_
        exact W.iret hx hb hr (fun t ht hW => ⟨⟨_, (), rfl, (by unfold sp_clause; (repeat' split) <;> first | rfl | (exfalso; omega)), by rw [ht]; exact hP.sub [] rfl, hD.sub [] (by decide) rfl⟩, hS.F ht⟩) hS.2.2 dX12_clause_61
      · refine lv_if_eq (tgt := 59) hx hb dX12_clause_38 (by decide) (fun _ => ?_) (fun c9 => absurd c9 (by decide))
        refine lv_bipush (v := (-2)) hx hb dX12_clause_59 (by decide) ?_
        exact W.iret hx hb hr (fun t ht hW => ⟨⟨_, (), rfl, (by unfold sp_clause; (repeat' split) <;> first | rfl | (exfalso; omega)), by rw [ht]; exact hP.sub [] rfl, hD.sub [] (by decide) rfl⟩, hS.F ht⟩) hS.2.2 dX12_clause_61
    · have h9t := ti_11
      refine va_getsN (v := .ref ta) hx hb hV.1.2.1 hS hown (va_Nw.use rfl (hE.2.2.1 _ (List.mem_of_getElem? (i := 0) rfl))) (fun _ h9 => h9) dX12_clause_17 ?_
      refine lv_iload_n hx hb dX12_clause_20 rfl (lv_at hl 1 rfl) ?_
      refine vb_tq (v := .ref (ad 11)) hx hb hV.1.2.2 hS (by unfold vp_in; decide) rfl dX12_clause_21 ?_
      refine lv_astore (lv' := [(5, .ref (ad 11)), (0, .ref h0), (1, .int 11), (2, .int x2), (3, .int x3), (4, .int x4)]) hx hb dX12_clause_22 hl (by decide) rfl (fun ls hl => ?_)
      refine lv_iload_n hx hb dX12_clause_24 rfl (lv_at hl 3 rfl) ?_
      refine lv_aload hx hb dX12_clause_25 (lv_at hl 0 rfl) ?_
      refine va_getE (i := 11) hx hb hV.1.1 (by decide) hS hown (q := kdQ "least" [0, 0, 0, -9, 0, 0, 0, 0, 0, 0, 0, 0, -99]) (List.mem_of_getElem? (i := 1) rfl) (hts (.fieldLink RX12 132 "ClauseBook$Kind" "least" "I") (List.mem_of_getElem? (i := 1) rfl)) (fun _ h9 => h9) dX12_clause_27 ?_
      refine W.eq (g2 := F0 m 30 ls [.int 0, .int x2]) rfl ?_
      refine lv_aload hx hb dX12_clause_30 (lv_at hl 0 rfl) ?_
      refine va_getE (i := 11) hx hb hV.1.1 (by decide) hS hown (q := kdQ "most" [0, 0, 0, 9, 0, 0, 0, 0, 6, 0, 0, 0, 99]) (List.mem_of_getElem? (i := 2) rfl) (hts (.fieldLink RX12 135 "ClauseBook$Kind" "most" "I") (List.mem_of_getElem? (i := 2) rfl)) (fun _ h9 => h9) dX12_clause_32 ?_
      refine W.eq (g2 := F0 m 35 ls [.int 0, .int 0, .int x2]) rfl ?_
      refine vp_callSi (W.runS (As := [.int x2, .int 0, .int 0]) (rest := []) ⟨hx, hb, hml, hown, hts⟩ (c_X12_within l D T x2 0 0 0 0 (by decide) (by decide)) (va_cwS 3 hts gX12_clause_X12_within rfl rfl rfl (by decide +kernel) ⟨Nat.le_of_ble_eq_true rfl, Nat.le_of_ble_eq_true rfl⟩) (pR_S hP hE [] rfl) rfl rfl hl.1 rfl (lv_room (Nat.le_of_ble_eq_true rfl)) dX12_clause_35 ⟨Nat.le_of_ble_eq_true rfl, Nat.le_of_ble_eq_true rfl⟩) (fun r_43 hr_43 => ?_)
      rcases bool_post hr_43 with ⟨c_44, rfl⟩ | ⟨c_44, rfl⟩
      · refine lv_if_eq (tgt := 59) hx hb dX12_clause_38 (by decide) (fun c9 => absurd c9 (by decide)) (fun _ => ?_)
        refine lv_aload hx hb dX12_clause_41 (lv_at hl 0 rfl) ?_
        refine lv_iload_n hx hb dX12_clause_43 rfl (lv_at hl 4 rfl) ?_
        refine lv_iload hx hb dX12_clause_44 (lv_at hl 5 rfl) ?_
        refine lv_aload_n hx hb dX12_clause_46 rfl (lv_at hl 1 rfl) ?_
        refine va_get (D := D) (ci := 9) (v := .ref h1) (C := RX12) (T := TX12) (N := 11) hx hb hts in_X12_clause_X12 hown hE.1 hP 0 rfl rfl 4 (by decide) (hts (.fieldLink RX12 32 "ClauseBook" "clauses" "LClauseBook$Clauses;") (List.mem_of_getElem? (i := 3) rfl)) (fun _ h9 => h9) e0_4 dX12_clause_47 ?_
        refine va_get (D := D) (ci := 1) (v := .int 0) (C := RX2) (T := TX2) (N := 8) hx hb hts in_X12_clause_X2 hown hE.1 hP 1 rfl rfl 0 (by decide) (hts (.fieldLink RX12 138 "ClauseBook$Clauses" "size" "I") (List.mem_of_getElem? (i := 4) rfl)) (fun _ h9 => h9) rfl dX12_clause_50 ?_
        refine vp_callSi (W.runV (As := [.int x3, .int x4, .int 0]) (rest := []) ⟨hx, hb, hml, hown, hts⟩ (f_X7_mayName_11 l D T ad sa av ta x3 x4) (cwV 3 hts gX12_clause_X7_mayName rfl rfl rfl (by decide +kernel) ⟨Nat.le_of_ble_eq_true rfl, Nat.le_of_ble_eq_true rfl⟩) (pRk_VE (i := 11) (by decide) hP hE hV hS [] rfl) rfl rfl hl.1 rfl (lv_room (Nat.le_of_ble_eq_true rfl)) dX12_clause_53 ⟨Nat.le_of_ble_eq_true rfl, Nat.le_of_ble_eq_true rfl⟩) (fun r_45 hr_45 => ?_)
        obtain rfl : r_45 = 0 := hr_45
        refine lv_if_ne (tgt := 62) hx hb dX12_clause_56 (by decide) (fun c9 => absurd c9 (by decide)) (fun _ => ?_)
        refine lv_bipush (v := (-2)) hx hb dX12_clause_59 (by decide) ?_
        exact W.iret hx hb hr (fun t ht hW => ⟨⟨_, (), rfl, (by unfold sp_clause; (repeat' split) <;> first | rfl | (exfalso; omega)), by rw [ht]; exact hP.sub [] rfl, hD.sub [] (by decide) rfl⟩, hS.F ht⟩) hS.2.2 dX12_clause_61
      · refine lv_if_eq (tgt := 59) hx hb dX12_clause_38 (by decide) (fun _ => ?_) (fun c9 => absurd c9 (by decide))
        refine lv_bipush (v := (-2)) hx hb dX12_clause_59 (by decide) ?_
        exact W.iret hx hb hr (fun t ht hW => ⟨⟨_, (), rfl, (by unfold sp_clause; (repeat' split) <;> first | rfl | (exfalso; omega)), by rw [ht]; exact hP.sub [] rfl, hD.sub [] (by decide) rfl⟩, hS.F ht⟩) hS.2.2 dX12_clause_61
    · have h9t := ti_12
      refine va_getsN (v := .ref ta) hx hb hV.1.2.1 hS hown (va_Nw.use rfl (hE.2.2.1 _ (List.mem_of_getElem? (i := 0) rfl))) (fun _ h9 => h9) dX12_clause_17 ?_
      refine lv_iload_n hx hb dX12_clause_20 rfl (lv_at hl 1 rfl) ?_
      refine vb_tq (v := .ref (ad 12)) hx hb hV.1.2.2 hS (by unfold vp_in; decide) rfl dX12_clause_21 ?_
      refine lv_astore (lv' := [(5, .ref (ad 12)), (0, .ref h0), (1, .int 12), (2, .int x2), (3, .int x3), (4, .int x4)]) hx hb dX12_clause_22 hl (by decide) rfl (fun ls hl => ?_)
      refine lv_iload_n hx hb dX12_clause_24 rfl (lv_at hl 3 rfl) ?_
      refine lv_aload hx hb dX12_clause_25 (lv_at hl 0 rfl) ?_
      refine va_getE (i := 12) hx hb hV.1.1 (by decide) hS hown (q := kdQ "least" [0, 0, 0, -9, 0, 0, 0, 0, 0, 0, 0, 0, -99]) (List.mem_of_getElem? (i := 1) rfl) (hts (.fieldLink RX12 132 "ClauseBook$Kind" "least" "I") (List.mem_of_getElem? (i := 1) rfl)) (fun _ h9 => h9) dX12_clause_27 ?_
      refine W.eq (g2 := F0 m 30 ls [.int (-99), .int x2]) rfl ?_
      refine lv_aload hx hb dX12_clause_30 (lv_at hl 0 rfl) ?_
      refine va_getE (i := 12) hx hb hV.1.1 (by decide) hS hown (q := kdQ "most" [0, 0, 0, 9, 0, 0, 0, 0, 6, 0, 0, 0, 99]) (List.mem_of_getElem? (i := 2) rfl) (hts (.fieldLink RX12 135 "ClauseBook$Kind" "most" "I") (List.mem_of_getElem? (i := 2) rfl)) (fun _ h9 => h9) dX12_clause_32 ?_
      refine W.eq (g2 := F0 m 35 ls [.int 99, .int (-99), .int x2]) rfl ?_
      refine vp_callSi (W.runS (As := [.int x2, .int (-99), .int 99]) (rest := []) ⟨hx, hb, hml, hown, hts⟩ (c_X12_within l D T x2 (-99) 99 (-99) 99 (by decide) (by decide)) (va_cwS 3 hts gX12_clause_X12_within rfl rfl rfl (by decide +kernel) ⟨Nat.le_of_ble_eq_true rfl, Nat.le_of_ble_eq_true rfl⟩) (pR_S hP hE [] rfl) rfl rfl hl.1 rfl (lv_room (Nat.le_of_ble_eq_true rfl)) dX12_clause_35 ⟨Nat.le_of_ble_eq_true rfl, Nat.le_of_ble_eq_true rfl⟩) (fun r_46 hr_46 => ?_)
      rcases bool_post hr_46 with ⟨c_47, rfl⟩ | ⟨c_47, rfl⟩
      · refine lv_if_eq (tgt := 59) hx hb dX12_clause_38 (by decide) (fun c9 => absurd c9 (by decide)) (fun _ => ?_)
        refine lv_aload hx hb dX12_clause_41 (lv_at hl 0 rfl) ?_
        refine lv_iload_n hx hb dX12_clause_43 rfl (lv_at hl 4 rfl) ?_
        refine lv_iload hx hb dX12_clause_44 (lv_at hl 5 rfl) ?_
        refine lv_aload_n hx hb dX12_clause_46 rfl (lv_at hl 1 rfl) ?_
        refine va_get (D := D) (ci := 9) (v := .ref h1) (C := RX12) (T := TX12) (N := 11) hx hb hts in_X12_clause_X12 hown hE.1 hP 0 rfl rfl 4 (by decide) (hts (.fieldLink RX12 32 "ClauseBook" "clauses" "LClauseBook$Clauses;") (List.mem_of_getElem? (i := 3) rfl)) (fun _ h9 => h9) e0_4 dX12_clause_47 ?_
        refine va_get (D := D) (ci := 1) (v := .int 0) (C := RX2) (T := TX2) (N := 8) hx hb hts in_X12_clause_X2 hown hE.1 hP 1 rfl rfl 0 (by decide) (hts (.fieldLink RX12 138 "ClauseBook$Clauses" "size" "I") (List.mem_of_getElem? (i := 4) rfl)) (fun _ h9 => h9) rfl dX12_clause_50 ?_
        refine vp_callSi (W.runV (As := [.int x3, .int x4, .int 0]) (rest := []) ⟨hx, hb, hml, hown, hts⟩ (f_X7_mayName_12 l D T ad sa av ta x3 x4) (cwV 3 hts gX12_clause_X7_mayName rfl rfl rfl (by decide +kernel) ⟨Nat.le_of_ble_eq_true rfl, Nat.le_of_ble_eq_true rfl⟩) (pRk_VE (i := 12) (by decide) hP hE hV hS [] rfl) rfl rfl hl.1 rfl (lv_room (Nat.le_of_ble_eq_true rfl)) dX12_clause_53 ⟨Nat.le_of_ble_eq_true rfl, Nat.le_of_ble_eq_true rfl⟩) (fun r_48 hr_48 => ?_)
        obtain rfl : r_48 = 0 := hr_48
        refine lv_if_ne (tgt := 62) hx hb dX12_clause_56 (by decide) (fun c9 => absurd c9 (by decide)) (fun _ => ?_)
        refine lv_bipush (v := (-2)) hx hb dX12_clause_59 (by decide) ?_
        exact W.iret hx hb hr (fun t ht hW => ⟨⟨_, (), rfl, (by unfold sp_clause; (repeat' split) <;> first | rfl | (exfalso; omega)), by rw [ht]; exact hP.sub [] rfl, hD.sub [] (by decide) rfl⟩, hS.F ht⟩) hS.2.2 dX12_clause_61
      · refine lv_if_eq (tgt := 59) hx hb dX12_clause_38 (by decide) (fun _ => ?_) (fun c9 => absurd c9 (by decide))
        refine lv_bipush (v := (-2)) hx hb dX12_clause_59 (by decide) ?_
        exact W.iret hx hb hr (fun t ht hW => ⟨⟨_, (), rfl, (by unfold sp_clause; (repeat' split) <;> first | rfl | (exfalso; omega)), by rw [ht]; exact hP.sub [] rfl, hD.sub [] (by decide) rfl⟩, hS.F ht⟩) hS.2.2 dX12_clause_61
  · refine lv_if_ne (tgt := 17) hx hb dX12_clause_11 (by decide) (fun c9 => absurd c9 (by decide)) (fun _ => ?_)
    refine lv_bipush (v := (-2)) hx hb dX12_clause_14 (by decide) ?_
    exact W.iret hx hb hr (fun t ht hW => ⟨⟨_, (), rfl, (by unfold sp_clause; (repeat' split) <;> first | rfl | (exfalso; omega)), by rw [ht]; exact hP.sub [] rfl, hD.sub [] (by decide) rfl⟩, hS.F ht⟩) hS.2.2 dX12_clause_16
theorem dX12_pour_0 : decode cX12_pour 0 = .ok (.iload_n 1, 1) := by decide +kernel
theorem dX12_pour_1 : decode cX12_pour 1 = .ok (.invokestatic 300, 3) := by decide +kernel
theorem dX12_pour_11 : decode cX12_pour 11 = .ok (.ifCond .eq 22, 3) := by decide +kernel
theorem dX12_pour_14 : decode cX12_pour 14 = .ok (.iload_n 1, 1) := by decide +kernel
theorem dX12_pour_15 : decode cX12_pour 15 = .ok (.iload_n 2, 1) := by decide +kernel
theorem dX12_pour_153 : decode cX12_pour 153 = .ok (.aload 4, 2) := by decide +kernel
theorem dX12_pour_155 : decode cX12_pour 155 = .ok (.iload 6, 2) := by decide +kernel
theorem dX12_pour_157 : decode cX12_pour 157 = .ok (.putfield 307, 3) := by decide +kernel
theorem dX12_pour_16 : decode cX12_pour 16 = .ok (.if_icmp .eq 17, 3) := by decide +kernel
theorem dX12_pour_160 : decode cX12_pour 160 = .ok (.iload 5, 2) := by decide +kernel
theorem dX12_pour_162 : decode cX12_pour 162 = .ok (.iload 6, 2) := by decide +kernel
theorem dX12_pour_164 : decode cX12_pour 164 = .ok (.isub, 1) := by decide +kernel
theorem dX12_pour_165 : decode cX12_pour 165 = .ok (.ireturn, 1) := by decide +kernel
theorem dX12_pour_19 : decode cX12_pour 19 = .ok (.iload_n 3, 1) := by decide +kernel
theorem dX12_pour_20 : decode cX12_pour 20 = .ok (.iconst (-1), 1) := by decide +kernel
theorem dX12_pour_21 : decode cX12_pour 21 = .ok (.getstatic 126, 3) := by decide +kernel
theorem dX12_pour_24 : decode cX12_pour 24 = .ok (.arraylength, 1) := by decide +kernel
theorem dX12_pour_25 : decode cX12_pour 25 = .ok (.iconst 1, 1) := by decide +kernel
theorem dX12_pour_26 : decode cX12_pour 26 = .ok (.isub, 1) := by decide +kernel
theorem dX12_pour_27 : decode cX12_pour 27 = .ok (.invokestatic 77, 3) := by decide +kernel
theorem dX12_pour_30 : decode cX12_pour 30 = .ok (.ifCond .ne 6, 3) := by decide +kernel
theorem dX12_pour_33 : decode cX12_pour 33 = .ok (.bipush (-2), 2) := by decide +kernel
theorem dX12_pour_35 : decode cX12_pour 35 = .ok (.ireturn, 1) := by decide +kernel
theorem dX12_pour_36 : decode cX12_pour 36 = .ok (.aload_n 0, 1) := by decide +kernel
theorem dX12_pour_37 : decode cX12_pour 37 = .ok (.getfield 37, 3) := by decide +kernel
theorem dX12_pour_4 : decode cX12_pour 4 = .ok (.ifCond .eq 29, 3) := by decide +kernel
theorem dX12_pour_40 : decode cX12_pour 40 = .ok (.iload_n 1, 1) := by decide +kernel
theorem dX12_pour_41 : decode cX12_pour 41 = .ok (.aaload, 1) := by decide +kernel
theorem dX12_pour_42 : decode cX12_pour 42 = .ok (.astore 4, 2) := by decide +kernel
theorem dX12_pour_44 : decode cX12_pour 44 = .ok (.aload 4, 2) := by decide +kernel
theorem dX12_pour_46 : decode cX12_pour 46 = .ok (.getfield 307, 3) := by decide +kernel
theorem dX12_pour_49 : decode cX12_pour 49 = .ok (.istore 5, 2) := by decide +kernel
theorem dX12_pour_51 : decode cX12_pour 51 = .ok (.iconst 0, 1) := by decide +kernel
theorem dX12_pour_52 : decode cX12_pour 52 = .ok (.istore 6, 2) := by decide +kernel
theorem dX12_pour_54 : decode cX12_pour 54 = .ok (.iconst 0, 1) := by decide +kernel
theorem dX12_pour_55 : decode cX12_pour 55 = .ok (.istore 7, 2) := by decide +kernel
theorem dX12_pour_57 : decode cX12_pour 57 = .ok (.iload 7, 2) := by decide +kernel
theorem dX12_pour_59 : decode cX12_pour 59 = .ok (.iload 5, 2) := by decide +kernel
theorem dX12_pour_61 : decode cX12_pour 61 = .ok (.if_icmp .ge 92, 3) := by decide +kernel
theorem dX12_pour_7 : decode cX12_pour 7 = .ok (.iload_n 2, 1) := by decide +kernel
theorem dX12_pour_8 : decode cX12_pour 8 = .ok (.invokestatic 300, 3) := by decide +kernel
set_option maxRecDepth 20000 in
theorem ggX12_pour_X12_isBag : GoodIn wsX12_pour wsX12_isBag := goodIn_r _ [9, 10, 11, 8, 12] (by decide +kernel) (by decide +kernel)
set_option maxRecDepth 20000 in
theorem ggX12_pour_X12_within : GoodIn wsX12_pour wsX12_within := goodIn_r _ [12] (by decide +kernel) (by decide +kernel)
set_option maxRecDepth 20000 in
theorem gX12_pour_X12_isBag : GoodIn wsX12_pour (va_wsS RX12 300 yX12_isBag wsX12_isBag) := goodIn_app (goodIn_of _ (by decide +kernel)) ggX12_pour_X12_isBag
set_option maxRecDepth 20000 in
theorem gX12_pour_X12_within : GoodIn wsX12_pour (va_wsS RX12 77 yX12_within wsX12_within) := goodIn_app (goodIn_of _ (by decide +kernel)) ggX12_pour_X12_within
set_option maxRecDepth 20000 in
theorem in_X12_pour_X1 : ∀ w ∈ wsX10, w ∈ wsX12_pour := by decide +kernel
set_option maxRecDepth 20000 in
theorem in_X12_pour_X12 : ∀ w ∈ wsX120, w ∈ wsX12_pour := by decide +kernel
set_option maxHeartbeats 4000000 in
set_option maxRecDepth 100000 in
theorem f_X12_pour (l : Launch) (D : va_G) (T : Nat → ClassId) (ad sa av : Nat → Nat) (ta : Nat) (sz : Nat) (h0 : Nat) (h1 : Nat) (fs0 : List Value) (t0 : Nat) (t1 : Nat) (t2 : Nat) (b0 : Value) (b1 : Value) (b2 : Value) (x1 : Int32) (x2 : Int32) (x3 : Int32) (e0_5 : fs0[5]? = some (.ref h1)) : Met l yX12_pour wsX12_pour ({ frames := 2, cells := 0, slots := 0, locals := 42 }) (pWk [.ref h0, .int x1, .int x2, .int x3] D T [(h0, .inr (9, fs0)), (h1, .inl (T 5, 3, .inr (.inr (.inr (.inr (va_up (va_up (va_up (fun _ => none) 0 (some t0)) 1 (some t1)) 2 (some t2))))))), (t0, .inr (0, [.int 0, b0])), (t1, .inr (0, [.int 0, b1])), (t2, .inr (0, [.int 0, b2]))] sz ad sa av ta) (va_Qi (fun (r : Int32) (u : Unit) => r = sp_pour x1 x2 x3) (bW D (va_A [(h0, .inr (9, fs0)), (h1, .inl (T 5, 3, .inr (.inr (.inr (.inr (va_up (va_up (va_up (fun _ => none) 0 (some t0)) 1 (some t1)) 2 (some t2))))))), (t0, .inr (0, [.int 0, b0])), (t1, .inr (0, [.int 0, b1])), (t2, .inr (0, [.int 0, b2]))] sz) (fun (u : Unit) => ([] : va_W))) (va_A [(h0, .inr (9, fs0)), (h1, .inl (T 5, 3, .inr (.inr (.inr (.inr (va_up (va_up (va_up (fun _ => none) 0 (some t0)) 1 (some t1)) 2 (some t2))))))), (t0, .inr (0, [.int 0, b0])), (t1, .inr (0, [.int 0, b1])), (t2, .inr (0, [.int 0, b2]))] sz)) 0 0 (va_A [(h0, .inr (9, fs0)), (h1, .inl (T 5, 3, .inr (.inr (.inr (.inr (va_up (va_up (va_up (fun _ => none) 0 (some t0)) 1 (some t1)) 2 (some t2))))))), (t0, .inr (0, [.int 0, b0])), (t1, .inr (0, [.int 0, b1])), (t2, .inr (0, [.int 0, b2]))] sz) := by
  refine Met.ofW (cc := cX12_pour) (maxL := 10) (ret := (some .int)) (by decide) rfl ?_
  intro p e s m args below meth c s₁ B hml hv
  obtain ⟨rfl, hsz, hP, hE, hD0, hV⟩ := hv
  have hx := B.exec
  have hb := B.bytes
  have hr := B.returns
  have hts := atoms_spec (ws := wsX12_pour) B.pre
  have hown : s.vm.findClass RX12 = some m.cls := findClass_of_methodNamed B.named
  have hlocks := B.notSynchronized
  subst hsz
  have hD := hD0.self (sz := s.heap.size)
  generalize hAe : va_A [(h0, .inr (9, fs0)), (h1, .inl (T 5, 3, .inr (.inr (.inr (.inr (va_up (va_up (va_up (fun _ => none) 0 (some t0)) 1 (some t1)) 2 (some t2))))))), (t0, .inr (0, [.int 0, b0])), (t1, .inr (0, [.int 0, b1])), (t2, .inr (0, [.int 0, b2]))] s.heap.size = A at hD hV ⊢
  have hA : ∀ q : Nat, s.heap.size ≤ q → A q := fun q h => by rw [← hAe]; exact Or.inr h
  have hS : va_S A s.heap s.heap [] := va_S.rf
  have hP : va_P D vwCl [(h0, .inr (9, fs0)), (h1, .inl (T 5, 3, .inr (.inr (.inr (.inr (va_up (va_up (va_up (fun _ => none) 0 (some t0)) 1 (some t1)) 2 (some t2))))))), (t0, .inr (0, [.int 0, b0])), (t1, .inr (0, [.int 0, b1])), (t2, .inr (0, [.int 0, b2]))] s.heap := hP
  have hl := lv_entry ([.ref h0, .int x1, .int x2, .int x3]) (n := 10) (Nat.le_of_ble_eq_true rfl)
  rw [lg_entry_eq]
  generalize (lg_sl ([.ref h0, .int x1, .int x2, .int x3]) ++ List.replicate (10 - (lg_sl ([.ref h0, .int x1, .int x2, .int x3])).length) Slot.unset).toArray = ls at hl ⊢
  have hl : lv_has ls 10 [(0, .ref h0), (1, .int x1), (2, .int x2), (3, .int x3)] := hl
  clear hD0
  refine lv_iload_n hx hb dX12_pour_0 rfl (lv_at hl 1 rfl) ?_
  refine vp_callSi (W.runS (As := [.int x1]) (rest := []) ⟨hx, hb, hml, hown, hts⟩ (c_X12_isBag l D T x1) (va_cwS 1 hts gX12_pour_X12_isBag rfl rfl rfl (by decide +kernel) ⟨Nat.le_of_ble_eq_true rfl, Nat.le_of_ble_eq_true rfl⟩) (pR_S hP hE [] rfl) rfl rfl hl.1 rfl (lv_room (Nat.le_of_ble_eq_true rfl)) dX12_pour_1 ⟨Nat.le_of_ble_eq_true rfl, Nat.le_of_ble_eq_true rfl⟩) (fun r_1 hr_1 => ?_)
  rcases bool_post hr_1 with ⟨c_2, rfl⟩ | ⟨c_2, rfl⟩
  · refine lv_if_eq (tgt := 33) hx hb dX12_pour_4 (by decide) (fun c9 => absurd c9 (by decide)) (fun _ => ?_)
    refine lv_iload_n hx hb dX12_pour_7 rfl (lv_at hl 2 rfl) ?_
    refine vp_callSi (W.runS (As := [.int x2]) (rest := []) ⟨hx, hb, hml, hown, hts⟩ (c_X12_isBag l D T x2) (va_cwS 1 hts gX12_pour_X12_isBag rfl rfl rfl (by decide +kernel) ⟨Nat.le_of_ble_eq_true rfl, Nat.le_of_ble_eq_true rfl⟩) (pR_S hP hE [] rfl) rfl rfl hl.1 rfl (lv_room (Nat.le_of_ble_eq_true rfl)) dX12_pour_8 ⟨Nat.le_of_ble_eq_true rfl, Nat.le_of_ble_eq_true rfl⟩) (fun r_3 hr_3 => ?_)
    rcases bool_post hr_3 with ⟨c_4, rfl⟩ | ⟨c_4, rfl⟩
    · refine lv_if_eq (tgt := 33) hx hb dX12_pour_11 (by decide) (fun c9 => absurd c9 (by decide)) (fun _ => ?_)
      refine lv_iload_n hx hb dX12_pour_14 rfl (lv_at hl 1 rfl) ?_
      refine lv_iload_n hx hb dX12_pour_15 rfl (lv_at hl 2 rfl) ?_
      refine lv_icmp_eq (tgt := 33) hx hb dX12_pour_16 (by decide) (fun c_5 => ?_) (fun c_5 => ?_)
      · rw [fa_eq] at c_5
        refine lv_bipush (v := (-2)) hx hb dX12_pour_33 (by decide) ?_
        exact W.iret hx hb hr (fun t ht hW => ⟨⟨_, (), rfl, (by first | decide | (unfold sp_pour; (repeat' split) <;> first | rfl | (exfalso; omega))), by rw [ht]; exact hP.sub [] rfl, hD.sub [] (by decide) rfl⟩, hS.F ht⟩) hS.2.2 dX12_pour_35
      · rw [fa_eq] at c_5
        refine lv_iload_n hx hb dX12_pour_19 rfl (lv_at hl 3 rfl) ?_
        refine lv_iconst (v := (-1)) hx hb dX12_pour_20 (by decide) ?_
        refine va_getsN (v := .ref ta) hx hb hV.1.2.1 hS hown (va_Nw.use rfl (hE.2.2.1 _ (List.mem_of_getElem? (i := 0) rfl))) (fun _ h9 => h9) dX12_pour_21 ?_
        refine va_tlen (v := 13) hx hb hV.1.2.2 hS rfl dX12_pour_24 ?_
        refine lv_iconst (v := 1) hx hb dX12_pour_25 (by decide) ?_
        refine lv_isub hx hb dX12_pour_26 ?_
        refine lv_topi (fun z_6 ez_6 => ?_)
        obtain rfl : z_6 = 12 := ez_6.trans (by decide)
        refine vp_callSi (W.runS (As := [.int x3, .int (-1), .int 12]) (rest := []) ⟨hx, hb, hml, hown, hts⟩ (c_X12_within l D T x3 (-1) 12 (-1) 12 (by decide) (by decide)) (va_cwS 3 hts gX12_pour_X12_within rfl rfl rfl (by decide +kernel) ⟨Nat.le_of_ble_eq_true rfl, Nat.le_of_ble_eq_true rfl⟩) (pR_S hP hE [] rfl) rfl rfl hl.1 rfl (lv_room (Nat.le_of_ble_eq_true rfl)) dX12_pour_27 ⟨Nat.le_of_ble_eq_true rfl, Nat.le_of_ble_eq_true rfl⟩) (fun r_7 hr_7 => ?_)
        rcases bool_post hr_7 with ⟨c_8, rfl⟩ | ⟨c_8, rfl⟩
        · refine lv_if_ne (tgt := 36) hx hb dX12_pour_30 (by decide) (fun _ => ?_) (fun c9 => absurd c9 (by decide))
          refine lv_aload_n hx hb dX12_pour_36 rfl (lv_at hl 0 rfl) ?_
          refine va_get (D := D) (ci := 9) (v := .ref h1) (C := RX12) (T := TX12) (N := 11) hx hb hts in_X12_pour_X12 hown hE.1 hP 0 rfl rfl 5 (by decide) (hts (.fieldLink RX12 37 "ClauseBook" "bags" "[LClauseBook$Bag;") (List.mem_of_getElem? (i := 1) rfl)) (fun _ h9 => h9) e0_5 dX12_pour_37 ?_
          refine lv_iload_n hx hb dX12_pour_40 rfl (lv_at hl 1 rfl) ?_
          rcases in3 (x := x1) (by omega) with rfl | rfl | rfl
          · refine va_aldq hx hb hE.1 hP 1 5 rfl rfl (by unfold vp_in; decide) dX12_pour_41 ?_
            refine W.eq (g2 := F0 m 42 ls [.ref t0]) rfl ?_
            refine lv_astore (lv' := [(4, .ref t0), (0, .ref h0), (1, .int 0), (2, .int x2), (3, .int x3)]) hx hb dX12_pour_42 hl (by decide) rfl (fun ls hl => ?_)
            refine lv_aload hx hb dX12_pour_44 (lv_at hl 0 rfl) ?_
            refine va_get (D := D) (ci := 0) (v := .int 0) (C := RX1) (T := TX1) (N := 2) hx hb hts in_X12_pour_X1 hown hE.1 hP 2 rfl rfl 0 (by decide) (hts (.fieldLink RX12 307 "ClauseBook$Bag" "size" "I") (List.mem_of_getElem? (i := 2) rfl)) (fun _ h9 => h9) rfl dX12_pour_46 ?_
            refine lv_istore (lv' := [(5, .int 0), (4, .ref t0), (0, .ref h0), (1, .int 0), (2, .int x2), (3, .int x3)]) hx hb dX12_pour_49 hl (by decide) rfl (fun ls hl => ?_)
            refine lv_iconst (v := 0) hx hb dX12_pour_51 (by decide) ?_
            refine lv_istore (lv' := [(6, .int 0), (5, .int 0), (4, .ref t0), (0, .ref h0), (1, .int 0), (2, .int x2), (3, .int x3)]) hx hb dX12_pour_52 hl (by decide) rfl (fun ls hl => ?_)
            refine lv_iconst (v := 0) hx hb dX12_pour_54 (by decide) ?_
            refine lv_istore (lv' := [(7, .int 0), (6, .int 0), (5, .int 0), (4, .ref t0), (0, .ref h0), (1, .int 0), (2, .int x2), (3, .int x3)]) hx hb dX12_pour_55 hl (by decide) rfl (fun ls hl => ?_)
            refine lv_iload hx hb dX12_pour_57 (lv_at hl 0 rfl) ?_
            refine lv_iload hx hb dX12_pour_59 (lv_at hl 2 rfl) ?_
            refine lv_icmp_ge (tgt := 153) hx hb dX12_pour_61 (by decide) (fun _ => ?_) (fun c9 => absurd c9 (by decide))
            refine lv_aload hx hb dX12_pour_153 (lv_at hl 3 rfl) ?_
            refine lv_iload hx hb dX12_pour_155 (lv_at hl 1 rfl) ?_
            refine va_put (D := D) (ci := 0) (v := .int 0) (ty := .int) (C := RX1) (T := TX1) (N := 2) hx hb hts in_X12_pour_X1 tyX1 tyX1_ok nmX1 hown hE.1 hP hD hS 2 rfl rfl 0 (by decide) (hts (.fieldLink RX12 307 "ClauseBook$Bag" "size" "I") (List.mem_of_getElem? (i := 2) rfl)) (fun _ h9 => h9) rfl (by decide +kernel) rfl rfl (Nat.le_of_ble_eq_true rfl) dX12_pour_157 (fun H locs hP hD hS => ?_)
            have hP : va_P D vwCl [(h0, .inr (9, fs0)), (h1, .inl (T 5, 3, .inr (.inr (.inr (.inr (va_up (va_up (va_up (fun _ => none) 0 (some t0)) 1 (some t1)) 2 (some t2))))))), (t0, .inr (0, [.int 0, b0])), (t1, .inr (0, [.int 0, b1])), (t2, .inr (0, [.int 0, b2]))] H := hP
            have hD : va_D A [(h0, .inr (9, fs0)), (h1, .inl (T 5, 3, .inr (.inr (.inr (.inr (va_up (va_up (va_up (fun _ => none) 0 (some t0)) 1 (some t1)) 2 (some t2))))))), (t0, .inr (0, [.int 0, b0])), (t1, .inr (0, [.int 0, b1])), (t2, .inr (0, [.int 0, b2]))] := hD
            refine lv_iload hx hb dX12_pour_160 (lv_at hl 2 rfl) ?_
            refine lv_iload hx hb dX12_pour_162 (lv_at hl 1 rfl) ?_
            refine lv_isub hx hb dX12_pour_164 ?_
            refine lv_topi (fun z_9 ez_9 => ?_)
            obtain rfl : z_9 = 0 := ez_9.trans (by decide)
            exact W.iret hx hb hr (fun t ht hW => ⟨⟨_, (), rfl, (by first | decide | (unfold sp_pour; (repeat' split) <;> first | rfl | (exfalso; omega))), by rw [ht]; exact hP.sub [] rfl, hD.sub [] (by decide) rfl⟩, hS.F ht⟩) hS.2.2 dX12_pour_165
          · refine va_aldq hx hb hE.1 hP 1 5 rfl rfl (by unfold vp_in; decide) dX12_pour_41 ?_
            refine W.eq (g2 := F0 m 42 ls [.ref t1]) rfl ?_
            refine lv_astore (lv' := [(4, .ref t1), (0, .ref h0), (1, .int 1), (2, .int x2), (3, .int x3)]) hx hb dX12_pour_42 hl (by decide) rfl (fun ls hl => ?_)
            refine lv_aload hx hb dX12_pour_44 (lv_at hl 0 rfl) ?_
            refine va_get (D := D) (ci := 0) (v := .int 0) (C := RX1) (T := TX1) (N := 2) hx hb hts in_X12_pour_X1 hown hE.1 hP 3 rfl rfl 0 (by decide) (hts (.fieldLink RX12 307 "ClauseBook$Bag" "size" "I") (List.mem_of_getElem? (i := 2) rfl)) (fun _ h9 => h9) rfl dX12_pour_46 ?_
            refine lv_istore (lv' := [(5, .int 0), (4, .ref t1), (0, .ref h0), (1, .int 1), (2, .int x2), (3, .int x3)]) hx hb dX12_pour_49 hl (by decide) rfl (fun ls hl => ?_)
            refine lv_iconst (v := 0) hx hb dX12_pour_51 (by decide) ?_
            refine lv_istore (lv' := [(6, .int 0), (5, .int 0), (4, .ref t1), (0, .ref h0), (1, .int 1), (2, .int x2), (3, .int x3)]) hx hb dX12_pour_52 hl (by decide) rfl (fun ls hl => ?_)
            refine lv_iconst (v := 0) hx hb dX12_pour_54 (by decide) ?_
            refine lv_istore (lv' := [(7, .int 0), (6, .int 0), (5, .int 0), (4, .ref t1), (0, .ref h0), (1, .int 1), (2, .int x2), (3, .int x3)]) hx hb dX12_pour_55 hl (by decide) rfl (fun ls hl => ?_)
            refine lv_iload hx hb dX12_pour_57 (lv_at hl 0 rfl) ?_
            refine lv_iload hx hb dX12_pour_59 (lv_at hl 2 rfl) ?_
            refine lv_icmp_ge (tgt := 153) hx hb dX12_pour_61 (by decide) (fun _ => ?_) (fun c9 => absurd c9 (by decide))
            refine lv_aload hx hb dX12_pour_153 (lv_at hl 3 rfl) ?_
            refine lv_iload hx hb dX12_pour_155 (lv_at hl 1 rfl) ?_
            refine va_put (D := D) (ci := 0) (v := .int 0) (ty := .int) (C := RX1) (T := TX1) (N := 2) hx hb hts in_X12_pour_X1 tyX1 tyX1_ok nmX1 hown hE.1 hP hD hS 3 rfl rfl 0 (by decide) (hts (.fieldLink RX12 307 "ClauseBook$Bag" "size" "I") (List.mem_of_getElem? (i := 2) rfl)) (fun _ h9 => h9) rfl (by decide +kernel) rfl rfl (Nat.le_of_ble_eq_true rfl) dX12_pour_157 (fun H locs hP hD hS => ?_)
            have hP : va_P D vwCl [(h0, .inr (9, fs0)), (h1, .inl (T 5, 3, .inr (.inr (.inr (.inr (va_up (va_up (va_up (fun _ => none) 0 (some t0)) 1 (some t1)) 2 (some t2))))))), (t0, .inr (0, [.int 0, b0])), (t1, .inr (0, [.int 0, b1])), (t2, .inr (0, [.int 0, b2]))] H := hP
            have hD : va_D A [(h0, .inr (9, fs0)), (h1, .inl (T 5, 3, .inr (.inr (.inr (.inr (va_up (va_up (va_up (fun _ => none) 0 (some t0)) 1 (some t1)) 2 (some t2))))))), (t0, .inr (0, [.int 0, b0])), (t1, .inr (0, [.int 0, b1])), (t2, .inr (0, [.int 0, b2]))] := hD
            refine lv_iload hx hb dX12_pour_160 (lv_at hl 2 rfl) ?_
            refine lv_iload hx hb dX12_pour_162 (lv_at hl 1 rfl) ?_
            refine lv_isub hx hb dX12_pour_164 ?_
            refine lv_topi (fun z_10 ez_10 => ?_)
            obtain rfl : z_10 = 0 := ez_10.trans (by decide)
            exact W.iret hx hb hr (fun t ht hW => ⟨⟨_, (), rfl, (by first | decide | (unfold sp_pour; (repeat' split) <;> first | rfl | (exfalso; omega))), by rw [ht]; exact hP.sub [] rfl, hD.sub [] (by decide) rfl⟩, hS.F ht⟩) hS.2.2 dX12_pour_165
          · refine va_aldq hx hb hE.1 hP 1 5 rfl rfl (by unfold vp_in; decide) dX12_pour_41 ?_
            refine W.eq (g2 := F0 m 42 ls [.ref t2]) rfl ?_
            refine lv_astore (lv' := [(4, .ref t2), (0, .ref h0), (1, .int 2), (2, .int x2), (3, .int x3)]) hx hb dX12_pour_42 hl (by decide) rfl (fun ls hl => ?_)
            refine lv_aload hx hb dX12_pour_44 (lv_at hl 0 rfl) ?_
            refine va_get (D := D) (ci := 0) (v := .int 0) (C := RX1) (T := TX1) (N := 2) hx hb hts in_X12_pour_X1 hown hE.1 hP 4 rfl rfl 0 (by decide) (hts (.fieldLink RX12 307 "ClauseBook$Bag" "size" "I") (List.mem_of_getElem? (i := 2) rfl)) (fun _ h9 => h9) rfl dX12_pour_46 ?_
            refine lv_istore (lv' := [(5, .int 0), (4, .ref t2), (0, .ref h0), (1, .int 2), (2, .int x2), (3, .int x3)]) hx hb dX12_pour_49 hl (by decide) rfl (fun ls hl => ?_)
            refine lv_iconst (v := 0) hx hb dX12_pour_51 (by decide) ?_
            refine lv_istore (lv' := [(6, .int 0), (5, .int 0), (4, .ref t2), (0, .ref h0), (1, .int 2), (2, .int x2), (3, .int x3)]) hx hb dX12_pour_52 hl (by decide) rfl (fun ls hl => ?_)
            refine lv_iconst (v := 0) hx hb dX12_pour_54 (by decide) ?_
            refine lv_istore (lv' := [(7, .int 0), (6, .int 0), (5, .int 0), (4, .ref t2), (0, .ref h0), (1, .int 2), (2, .int x2), (3, .int x3)]) hx hb dX12_pour_55 hl (by decide) rfl (fun ls hl => ?_)
            refine lv_iload hx hb dX12_pour_57 (lv_at hl 0 rfl) ?_
            refine lv_iload hx hb dX12_pour_59 (lv_at hl 2 rfl) ?_
            refine lv_icmp_ge (tgt := 153) hx hb dX12_pour_61 (by decide) (fun _ => ?_) (fun c9 => absurd c9 (by decide))
            refine lv_aload hx hb dX12_pour_153 (lv_at hl 3 rfl) ?_
            refine lv_iload hx hb dX12_pour_155 (lv_at hl 1 rfl) ?_
            refine va_put (D := D) (ci := 0) (v := .int 0) (ty := .int) (C := RX1) (T := TX1) (N := 2) hx hb hts in_X12_pour_X1 tyX1 tyX1_ok nmX1 hown hE.1 hP hD hS 4 rfl rfl 0 (by decide) (hts (.fieldLink RX12 307 "ClauseBook$Bag" "size" "I") (List.mem_of_getElem? (i := 2) rfl)) (fun _ h9 => h9) rfl (by decide +kernel) rfl rfl (Nat.le_of_ble_eq_true rfl) dX12_pour_157 (fun H locs hP hD hS => ?_)
            have hP : va_P D vwCl [(h0, .inr (9, fs0)), (h1, .inl (T 5, 3, .inr (.inr (.inr (.inr (va_up (va_up (va_up (fun _ => none) 0 (some t0)) 1 (some t1)) 2 (some t2))))))), (t0, .inr (0, [.int 0, b0])), (t1, .inr (0, [.int 0, b1])), (t2, .inr (0, [.int 0, b2]))] H := hP
            have hD : va_D A [(h0, .inr (9, fs0)), (h1, .inl (T 5, 3, .inr (.inr (.inr (.inr (va_up (va_up (va_up (fun _ => none) 0 (some t0)) 1 (some t1)) 2 (some t2))))))), (t0, .inr (0, [.int 0, b0])), (t1, .inr (0, [.int 0, b1])), (t2, .inr (0, [.int 0, b2]))] := hD
            refine lv_iload hx hb dX12_pour_160 (lv_at hl 2 rfl) ?_
            refine lv_iload hx hb dX12_pour_162 (lv_at hl 1 rfl) ?_
            refine lv_isub hx hb dX12_pour_164 ?_
            refine lv_topi (fun z_11 ez_11 => ?_)
            obtain rfl : z_11 = 0 := ez_11.trans (by decide)
            exact W.iret hx hb hr (fun t ht hW => ⟨⟨_, (), rfl, (by first | decide | (unfold sp_pour; (repeat' split) <;> first | rfl | (exfalso; omega))), by rw [ht]; exact hP.sub [] rfl, hD.sub [] (by decide) rfl⟩, hS.F ht⟩) hS.2.2 dX12_pour_165
        · refine lv_if_ne (tgt := 36) hx hb dX12_pour_30 (by decide) (fun c9 => absurd c9 (by decide)) (fun _ => ?_)
          refine lv_bipush (v := (-2)) hx hb dX12_pour_33 (by decide) ?_
          exact W.iret hx hb hr (fun t ht hW => ⟨⟨_, (), rfl, (by first | decide | (unfold sp_pour; (repeat' split) <;> first | rfl | (exfalso; omega))), by rw [ht]; exact hP.sub [] rfl, hD.sub [] (by decide) rfl⟩, hS.F ht⟩) hS.2.2 dX12_pour_35
    · refine lv_if_eq (tgt := 33) hx hb dX12_pour_11 (by decide) (fun _ => ?_) (fun c9 => absurd c9 (by decide))
      refine lv_bipush (v := (-2)) hx hb dX12_pour_33 (by decide) ?_
      exact W.iret hx hb hr (fun t ht hW => ⟨⟨_, (), rfl, (by first | decide | (unfold sp_pour; (repeat' split) <;> first | rfl | (exfalso; omega))), by rw [ht]; exact hP.sub [] rfl, hD.sub [] (by decide) rfl⟩, hS.F ht⟩) hS.2.2 dX12_pour_35
  · refine lv_if_eq (tgt := 33) hx hb dX12_pour_4 (by decide) (fun _ => ?_) (fun c9 => absurd c9 (by decide))
    refine lv_bipush (v := (-2)) hx hb dX12_pour_33 (by decide) ?_
    exact W.iret hx hb hr (fun t ht hW => ⟨⟨_, (), rfl, (by first | decide | (unfold sp_pour; (repeat' split) <;> first | rfl | (exfalso; omega))), by rw [ht]; exact hP.sub [] rfl, hD.sub [] (by decide) rfl⟩, hS.F ht⟩) hS.2.2 dX12_pour_35
