theorem dX12_put_0 : decode cX12_put 0 = .ok (.iload_n 1, 1) := by decide +kernel
theorem dX12_put_1 : decode cX12_put 1 = .ok (.invokestatic 300, 3) := by decide +kernel
theorem dX12_put_11 : decode cX12_put 11 = .ok (.iload_n 2, 1) := by decide +kernel
theorem dX12_put_12 : decode cX12_put 12 = .ok (.invokevirtual 150, 3) := by decide +kernel
theorem dX12_put_15 : decode cX12_put 15 = .ok (.ifCond .ne 6, 3) := by decide +kernel
theorem dX12_put_18 : decode cX12_put 18 = .ok (.bipush (-2), 2) := by decide +kernel
theorem dX12_put_20 : decode cX12_put 20 = .ok (.ireturn, 1) := by decide +kernel
theorem dX12_put_21 : decode cX12_put 21 = .ok (.aload_n 0, 1) := by decide +kernel
theorem dX12_put_22 : decode cX12_put 22 = .ok (.getfield 37, 3) := by decide +kernel
theorem dX12_put_25 : decode cX12_put 25 = .ok (.iload_n 1, 1) := by decide +kernel
theorem dX12_put_26 : decode cX12_put 26 = .ok (.aaload, 1) := by decide +kernel
theorem dX12_put_27 : decode cX12_put 27 = .ok (.iload_n 2, 1) := by decide +kernel
theorem dX12_put_28 : decode cX12_put 28 = .ok (.invokevirtual 303, 3) := by decide +kernel
theorem dX12_put_31 : decode cX12_put 31 = .ok (.ifCond .eq 15, 3) := by decide +kernel
theorem dX12_put_34 : decode cX12_put 34 = .ok (.aload_n 0, 1) := by decide +kernel
theorem dX12_put_35 : decode cX12_put 35 = .ok (.getfield 37, 3) := by decide +kernel
theorem dX12_put_38 : decode cX12_put 38 = .ok (.iload_n 1, 1) := by decide +kernel
theorem dX12_put_39 : decode cX12_put 39 = .ok (.aaload, 1) := by decide +kernel
theorem dX12_put_4 : decode cX12_put 4 = .ok (.ifCond .eq 14, 3) := by decide +kernel
theorem dX12_put_40 : decode cX12_put 40 = .ok (.getfield 307, 3) := by decide +kernel
theorem dX12_put_43 : decode cX12_put 43 = .ok (.goto 5, 3) := by decide +kernel
theorem dX12_put_46 : decode cX12_put 46 = .ok (.bipush (-4), 2) := by decide +kernel
theorem dX12_put_48 : decode cX12_put 48 = .ok (.ireturn, 1) := by decide +kernel
theorem dX12_put_7 : decode cX12_put 7 = .ok (.aload_n 0, 1) := by decide +kernel
theorem dX12_put_8 : decode cX12_put 8 = .ok (.getfield 32, 3) := by decide +kernel
set_option maxRecDepth 20000 in
theorem ggX12_put_X12_isBag : GoodIn wsX12_put wsX12_isBag := goodIn_r _ [7, 8, 9, 6, 10] rfl (by decide +kernel)
set_option maxRecDepth 20000 in
theorem ggX12_put_X1_append : GoodIn wsX12_put wsX1_append := goodIn_r _ [21, 22, 23, 35, 36] rfl (by decide +kernel)
set_option maxRecDepth 20000 in
theorem ggX12_put_X2_has : GoodIn wsX12_put wsX2_has := goodIn_r _ [15, 16, 9, 6, 10, 37, 38, 39, 40, 41, 42, 43, 44] rfl (by decide +kernel)
set_option maxRecDepth 20000 in
theorem gX12_put_X12_isBag : GoodIn wsX12_put (va_wsS RX12 300 yX12_isBag wsX12_isBag) := goodIn_app (goodIn_of _ (by decide +kernel)) ggX12_put_X12_isBag
set_option maxRecDepth 20000 in
theorem gX12_put_X1_append : GoodIn wsX12_put (wsV RX12 303 RX1 yX1_append wsX1_append) := goodIn_app (goodIn_r _ [17, 18, 19, 20] rfl (by decide +kernel)) ggX12_put_X1_append
set_option maxRecDepth 20000 in
theorem gX12_put_X2_has : GoodIn wsX12_put (wsV RX12 150 RX2 yX2_has wsX2_has) := goodIn_app (goodIn_r _ [11, 12, 13, 14] rfl (by decide +kernel)) ggX12_put_X2_has
theorem hs_X12_isBag : yX12_isBag.cls ≠ "java/lang/invoke/MethodHandle" ∧ yX12_isBag.cls ≠ "java/lang/invoke/VarHandle" ∧ (parseMethodDescriptor yX12_isBag.desc).map (fun d => d.parameters.length) = some 1 := by decide +kernel
theorem hv_X1_append : yX1_append.cls = RX1 ∧ yX1_append.cls ≠ "java/lang/invoke/MethodHandle" ∧ yX1_append.cls ≠ "java/lang/invoke/VarHandle" ∧ (parseMethodDescriptor yX1_append.desc).map (fun d => d.parameters.length) = some 1 := by decide +kernel
set_option maxRecDepth 20000 in
theorem in_X12_put_X1 : ∀ w ∈ wsX10, w ∈ wsX12_put := sub_r [35, 36] rfl
set_option maxRecDepth 20000 in
theorem in_X12_put_X12 : ∀ w ∈ wsX120, w ∈ wsX12_put := sub_r [24, 25, 26, 27, 28, 29, 30, 31, 32, 33, 34] rfl
set_option maxHeartbeats 4000000 in
set_option maxRecDepth 100000 in
theorem c_X12_put (l : Launch) (D : va_G) (T : Nat → ClassId) (sz : Nat) (h0 : Nat) (h1 : Nat) (h2 : Nat) (fs0 : List Value) (fs2 : List Value) (n9 : Int32) (t0 : Nat) (t1 : Nat) (t2 : Nat) (a0 : Nat) (a1 : Nat) (a2 : Nat) (bn : Nat → Int32) (bf : Nat → Nat → Int32) (x1 : Int32) (x2 : Int32) (e0_5 : fs0[5]? = some (.ref h1)) (e0_4 : fs0[4]? = some (.ref h2)) (e2_0 : fs2[0]? = some (.int n9)) (hn : 0 ≤ n9.toInt ∧ n9.toInt ≤ 24) (hb0 : 0 ≤ (bn 0).toInt ∧ (bn 0).toInt ≤ 12) (hb1 : 0 ≤ (bn 1).toInt ∧ (bn 1).toInt ≤ 12) (hb2 : 0 ≤ (bn 2).toInt ∧ (bn 2).toInt ≤ 12) : Met l yX12_put wsX12_put ({ frames := 2, cells := 0, slots := 0, locals := 43 }) (pW [.ref h0, .int x1, .int x2] D T [(h0, .inr (9, fs0)), (h1, .inl (T 5, 3, .inr (.inr (.inr (.inr (va_up (va_up (va_up (fun _ => none) 0 (some t0)) 1 (some t1)) 2 (some t2))))))), (h2, .inr (1, fs2)), (t0, .inr (0, [.int (bn 0), .ref a0])), (t1, .inr (0, [.int (bn 1), .ref a1])), (t2, .inr (0, [.int (bn 2), .ref a2])), (a0, .inl (T 0, 12, .inl (bf 0))), (a1, .inl (T 0, 12, .inl (bf 1))), (a2, .inl (T 0, 12, .inl (bf 2)))] sz) (va_Qi (fun (r : Int32) (u : (Nat → Int32) × (Nat → Nat → Int32)) => (0 ≤ (u.1 0).toInt ∧ (u.1 0).toInt ≤ 12) ∧ (0 ≤ (u.1 1).toInt ∧ (u.1 1).toInt ≤ 12) ∧ (0 ≤ (u.1 2).toInt ∧ (u.1 2).toInt ≤ 12) ∧ putC n9 x1 x2 r bn u.1 bf u.2) (bW D (va_A [(h0, .inr (9, fs0)), (h1, .inl (T 5, 3, .inr (.inr (.inr (.inr (va_up (va_up (va_up (fun _ => none) 0 (some t0)) 1 (some t1)) 2 (some t2))))))), (h2, .inr (1, fs2)), (t0, .inr (0, [.int (bn 0), .ref a0])), (t1, .inr (0, [.int (bn 1), .ref a1])), (t2, .inr (0, [.int (bn 2), .ref a2])), (a0, .inl (T 0, 12, .inl (bf 0))), (a1, .inl (T 0, 12, .inl (bf 1))), (a2, .inl (T 0, 12, .inl (bf 2)))] sz) (fun (u : (Nat → Int32) × (Nat → Nat → Int32)) => [(h0, .inr (9, fs0)), (h1, .inl (T 5, 3, .inr (.inr (.inr (.inr (va_up (va_up (va_up (fun _ => none) 0 (some t0)) 1 (some t1)) 2 (some t2))))))), (h2, .inr (1, fs2)), (t0, .inr (0, [.int (u.1 0), .ref a0])), (t1, .inr (0, [.int (u.1 1), .ref a1])), (t2, .inr (0, [.int (u.1 2), .ref a2])), (a0, .inl (T 0, 12, .inl (u.2 0))), (a1, .inl (T 0, 12, .inl (u.2 1))), (a2, .inl (T 0, 12, .inl (u.2 2)))])) (va_A [(h0, .inr (9, fs0)), (h1, .inl (T 5, 3, .inr (.inr (.inr (.inr (va_up (va_up (va_up (fun _ => none) 0 (some t0)) 1 (some t1)) 2 (some t2))))))), (h2, .inr (1, fs2)), (t0, .inr (0, [.int (bn 0), .ref a0])), (t1, .inr (0, [.int (bn 1), .ref a1])), (t2, .inr (0, [.int (bn 2), .ref a2])), (a0, .inl (T 0, 12, .inl (bf 0))), (a1, .inl (T 0, 12, .inl (bf 1))), (a2, .inl (T 0, 12, .inl (bf 2)))] sz)) 0 0 (va_A [(h0, .inr (9, fs0)), (h1, .inl (T 5, 3, .inr (.inr (.inr (.inr (va_up (va_up (va_up (fun _ => none) 0 (some t0)) 1 (some t1)) 2 (some t2))))))), (h2, .inr (1, fs2)), (t0, .inr (0, [.int (bn 0), .ref a0])), (t1, .inr (0, [.int (bn 1), .ref a1])), (t2, .inr (0, [.int (bn 2), .ref a2])), (a0, .inl (T 0, 12, .inl (bf 0))), (a1, .inl (T 0, 12, .inl (bf 1))), (a2, .inl (T 0, 12, .inl (bf 2)))] sz) := by
  refine Met.ofW (cc := cX12_put) (maxL := 3) (ret := (some .int)) (by decide +kernel) rfl ?_
  intro p e s m args below meth c s₁ B hml hv
  obtain ⟨rfl, hsz, hP, hE, hD0⟩ := hv
  have hx := B.exec
  have hb := B.bytes
  have hr := B.returns
  have hts := atoms_spec (ws := wsX12_put) B.pre
  have hown : s.vm.findClass RX12 = some m.cls := findClass_of_methodNamed B.named
  have hlocks := B.notSynchronized
  subst hsz
  have hD := hD0.self (sz := s.heap.size)
  generalize hAe : va_A [(h0, .inr (9, fs0)), (h1, .inl (T 5, 3, .inr (.inr (.inr (.inr (va_up (va_up (va_up (fun _ => none) 0 (some t0)) 1 (some t1)) 2 (some t2))))))), (h2, .inr (1, fs2)), (t0, .inr (0, [.int (bn 0), .ref a0])), (t1, .inr (0, [.int (bn 1), .ref a1])), (t2, .inr (0, [.int (bn 2), .ref a2])), (a0, .inl (T 0, 12, .inl (bf 0))), (a1, .inl (T 0, 12, .inl (bf 1))), (a2, .inl (T 0, 12, .inl (bf 2)))] s.heap.size = A at hD ⊢
  have hA : ∀ q : Nat, s.heap.size ≤ q → A q := fun q h => by rw [← hAe]; exact Or.inr h
  have hS : va_S A s.heap s.heap [] := va_S.rf
  have hP : va_P D vwCl [(h0, .inr (9, fs0)), (h1, .inl (T 5, 3, .inr (.inr (.inr (.inr (va_up (va_up (va_up (fun _ => none) 0 (some t0)) 1 (some t1)) 2 (some t2))))))), (h2, .inr (1, fs2)), (t0, .inr (0, [.int (bn 0), .ref a0])), (t1, .inr (0, [.int (bn 1), .ref a1])), (t2, .inr (0, [.int (bn 2), .ref a2])), (a0, .inl (T 0, 12, .inl (bf 0))), (a1, .inl (T 0, 12, .inl (bf 1))), (a2, .inl (T 0, 12, .inl (bf 2)))] s.heap := hP
  have hl := lv_entry ([.ref h0, .int x1, .int x2]) (n := 3) (Nat.le_of_ble_eq_true rfl)
  rw [lg_entry_eq]
  generalize (lg_sl ([.ref h0, .int x1, .int x2]) ++ List.replicate (3 - (lg_sl ([.ref h0, .int x1, .int x2])).length) Slot.unset).toArray = ls at hl ⊢
  have hl : lv_has ls 3 [(0, .ref h0), (1, .int x1), (2, .int x2)] := hl
  clear hD0
  refine lv_iload_n hx hb dX12_put_0 rfl (lv_at hl 1 rfl) ?_
  refine vp_callSi (W.runS (As := [.int x1]) (rest := []) ⟨hx, hb, hml, hown, hts⟩ (c_X12_isBag l D T x1) (va_cwS 1 hts gX12_put_X12_isBag rfl rfl rfl hs_X12_isBag ⟨Nat.le_of_ble_eq_true rfl, Nat.le_of_ble_eq_true rfl⟩) (pR_S hP hE [] rfl) rfl rfl hl.1 rfl (lv_room (Nat.le_of_ble_eq_true rfl)) dX12_put_1 ⟨Nat.le_of_ble_eq_true rfl, Nat.le_of_ble_eq_true rfl⟩) (fun r_1 hr_1 => ?_)
  rcases bool_post hr_1 with ⟨c_2, rfl⟩ | ⟨c_2, rfl⟩
  · refine lv_if_eq (tgt := 18) hx hb dX12_put_4 (by decide +kernel) (fun c9 => absurd c9 (by decide +kernel)) (fun _ => ?_)
    refine lv_aload_n hx hb dX12_put_7 rfl (lv_at hl 0 rfl) ?_
    refine va_get (D := D) (ci := 9) (v := .ref h2) (C := RX12) (T := TX12) (N := 11) hx hb hts in_X12_put_X12 hown hE.1 hP 0 rfl rfl 4 (by decide +kernel) (hts (.fieldLink RX12 32 "ClauseBook" "clauses" "LClauseBook$Clauses;") (List.mem_of_getElem? (i := 1) rfl)) (fun _ h9 => h9) e0_4 dX12_put_8 ?_
    refine lv_iload_n hx hb dX12_put_11 rfl (lv_at hl 2 rfl) ?_
    refine vp_callSi (W.runV (As := [.int x2]) (rest := []) ⟨hx, hb, hml, hown, hts⟩ (c_X2_has l D T h2 fs2 x2 n9 e2_0 (by omega)) (cwV 1 hts gX12_put_X2_has rfl rfl rfl hv_X2_has ⟨Nat.le_of_ble_eq_true rfl, Nat.le_of_ble_eq_true rfl⟩) (pR_V (q := (RX2, TX2, 8)) (ci := 1) (q0 := 2) hP hE rfl rfl [2] rfl) rfl rfl hl.1 rfl (lv_room (Nat.le_of_ble_eq_true rfl)) dX12_put_12 ⟨Nat.le_of_ble_eq_true rfl, Nat.le_of_ble_eq_true rfl⟩) (fun r_3 hr_3 => ?_)
    rcases bool_post hr_3 with ⟨c_4, rfl⟩ | ⟨c_4, rfl⟩
    · refine lv_if_ne (tgt := 21) hx hb dX12_put_15 (by decide +kernel) (fun _ => ?_) (fun c9 => absurd c9 (by decide +kernel))
      refine lv_aload_n hx hb dX12_put_21 rfl (lv_at hl 0 rfl) ?_
      refine va_get (D := D) (ci := 9) (v := .ref h1) (C := RX12) (T := TX12) (N := 11) hx hb hts in_X12_put_X12 hown hE.1 hP 0 rfl rfl 5 (by decide +kernel) (hts (.fieldLink RX12 37 "ClauseBook" "bags" "[LClauseBook$Bag;") (List.mem_of_getElem? (i := 2) rfl)) (fun _ h9 => h9) e0_5 dX12_put_22 ?_
      refine lv_iload_n hx hb dX12_put_25 rfl (lv_at hl 1 rfl) ?_
      rcases in3 (x := x1) (by omega) with rfl | rfl | rfl
      · refine va_aldq hx hb hE.1 hP 1 5 rfl rfl (by unfold vp_in; decide) dX12_put_26 ?_
        refine W.eq (g2 := F0 m 27 ls [.ref t0]) rfl ?_
        refine lv_iload_n hx hb dX12_put_27 rfl (lv_at hl 2 rfl) ?_
        have hFc := va_free (wc := [(t0, .inr (0, [.int (bn 0), .ref a0])), (a0, .inl (T 0, 12, .inl (bf 0)))]) hD hS hA [3, 6] rfl
        refine va_calli (va_runV (As := [.int x2]) (rest := []) ⟨hx, hb, hml, hown, hts⟩ (c_X1_append l D T _ t0 (bn 0) a0 (bf 0) x2 (by omega)) (cwV 1 hts gX12_put_X1_append rfl rfl rfl hv_X1_append ⟨Nat.le_of_ble_eq_true rfl, Nat.le_of_ble_eq_true rfl⟩) (pW_V (q := (RX1, TX1, 2)) (ci := 0) (q0 := 3) hP hE hD rfl rfl [3, 6] (by decide +kernel) rfl rfl) rfl rfl hl.1 rfl (lv_room (Nat.le_of_ble_eq_true rfl)) dX12_put_28 ⟨Nat.le_of_ble_eq_true rfl, Nat.le_of_ble_eq_true rfl⟩) hS (fun q _ h => hFc q h) hFc (fun r_5 u_6 t H1 locs ht hvm hr_5 hB hz1 hk1 hS => ?_)
        obtain ⟨n_7, f_8⟩ := u_6
        have hinn_7 : 0 ≤ n_7.toInt ∧ n_7.toInt ≤ 12 := hr_5.2.1
        have hap : (((bn 0)).toInt < 12 → n_7.toInt = ((bn 0)).toInt + 1 ∧ f_8 = upd (bf 0) (((bn 0)).toNatClampNeg) x2) ∧ (¬ ((bn 0)).toInt < 12 → n_7 = (bn 0) ∧ f_8 = (bf 0)) := hr_5.2.2
        have hbo : r_5 = if ((bn 0)).toInt < 12 then 1 else 0 := hr_5.1
        obtain ⟨hP1, hD1⟩ := hB
        rw [ht] at hP1
        obtain ⟨hP, hD⟩ := va_repl [(h0, .inr (9, fs0)), (h1, .inl (T 5, 3, .inr (.inr (.inr (.inr (va_up (va_up (va_up (fun _ => none) 0 (some t0)) 1 (some t1)) 2 (some t2))))))), (h2, .inr (1, fs2)), (t0, .inr (0, [.int n_7, .ref a0])), (t1, .inr (0, [.int (bn 1), .ref a1])), (t2, .inr (0, [.int (bn 2), .ref a2])), (a0, .inl (T 0, 12, .inl f_8)), (a1, .inl (T 0, 12, .inl (bf 1))), (a2, .inl (T 0, 12, .inl (bf 2)))] hP hD [3, 6] [3, 6] rfl (by decide +kernel) rfl rfl rfl hk1 hP1
        clear hP1 hD1 hFc
        generalize H1 = H at hP hS ⊢
        rcases bool_post hbo with ⟨c_9, rfl⟩ | ⟨c_9, rfl⟩
        · refine lv_if_eq (tgt := 46) hx hb dX12_put_31 (by decide +kernel) (fun c9 => absurd c9 (by decide +kernel)) (fun _ => ?_)
          refine lv_aload_n hx hb dX12_put_34 rfl (lv_at hl 0 rfl) ?_
          refine va_get (D := D) (ci := 9) (v := .ref h1) (C := RX12) (T := TX12) (N := 11) hx hb hts in_X12_put_X12 hown hE.1 hP 0 rfl rfl 5 (by decide +kernel) (hts (.fieldLink RX12 37 "ClauseBook" "bags" "[LClauseBook$Bag;") (List.mem_of_getElem? (i := 2) rfl)) (fun _ h9 => h9) e0_5 dX12_put_35 ?_
          refine lv_iload_n hx hb dX12_put_38 rfl (lv_at hl 1 rfl) ?_
          refine va_aldq hx hb hE.1 hP 1 5 rfl rfl (by unfold vp_in; decide) dX12_put_39 ?_
          refine W.eq (g2 := F0 m 40 ls [.ref t0]) rfl ?_
          refine va_get (D := D) (ci := 0) (v := .int n_7) (C := RX1) (T := TX1) (N := 2) hx hb hts in_X12_put_X1 hown hE.1 hP 3 rfl rfl 0 (by decide +kernel) (hts (.fieldLink RX12 307 "ClauseBook$Bag" "size" "I") (List.mem_of_getElem? (i := 3) rfl)) (fun _ h9 => h9) rfl dX12_put_40 ?_
          refine lv_goto (tgt := 48) hx hb dX12_put_43 (by decide +kernel) ?_
          exact W.iret hx hb hr (fun t ht hW => ⟨⟨_, ((fun k => [n_7, (bn 1), (bn 2)].getD k 0), (fun k => [f_8, (bf 1), (bf 2)].getD k f_8)), rfl, ⟨(show 0 ≤ (n_7).toInt ∧ (n_7).toInt ≤ 12 from by (try subst_vars); first | omega | (rw [dec1 (by omega)]; omega)), (show 0 ≤ ((bn 1)).toInt ∧ ((bn 1)).toInt ≤ 12 from by (try subst_vars); first | omega | (rw [dec1 (by omega)]; omega)), (show 0 ≤ ((bn 2)).toInt ∧ ((bn 2)).toInt ≤ 12 from by (try subst_vars); first | omega | (rw [dec1 (by omega)]; omega)), (Or.inr (Or.inr ⟨⟨⟨by decide, by decide⟩, by omega⟩, (show (bn 0).toInt < 12 from by omega), (show n_7.toInt = (bn 0).toInt + 1 from (hap.1 (by omega)).1), all3 ⟨(fun _ => ⟨rfl, (hap.1 (by omega)).2⟩), (fun h9 => absurd (by decide +kernel) h9)⟩ ⟨(fun h9 => absurd h9 (by decide +kernel)), (fun _ => ⟨rfl, rfl⟩)⟩ ⟨(fun h9 => absurd h9 (by decide +kernel)), (fun _ => ⟨rfl, rfl⟩)⟩⟩))⟩, by rw [ht]; exact hP.sub [0, 1, 2, 3, 4, 5, 6, 7, 8] rfl, hD.sub [0, 1, 2, 3, 4, 5, 6, 7, 8] (by decide +kernel) rfl⟩, hS.F ht⟩) hS.2.2 dX12_put_48
        · refine lv_if_eq (tgt := 46) hx hb dX12_put_31 (by decide +kernel) (fun _ => ?_) (fun c9 => absurd c9 (by decide +kernel))
          refine lv_bipush (v := (-4)) hx hb dX12_put_46 (by decide +kernel) ?_
          exact W.iret hx hb hr (fun t ht hW => ⟨⟨_, ((fun k => [n_7, (bn 1), (bn 2)].getD k 0), (fun k => [f_8, (bf 1), (bf 2)].getD k f_8)), rfl, ⟨(show 0 ≤ (n_7).toInt ∧ (n_7).toInt ≤ 12 from by (try subst_vars); first | omega | (rw [dec1 (by omega)]; omega)), (show 0 ≤ ((bn 1)).toInt ∧ ((bn 1)).toInt ≤ 12 from by (try subst_vars); first | omega | (rw [dec1 (by omega)]; omega)), (show 0 ≤ ((bn 2)).toInt ∧ ((bn 2)).toInt ≤ 12 from by (try subst_vars); first | omega | (rw [dec1 (by omega)]; omega)), (Or.inr (Or.inl ⟨⟨⟨by decide, by decide⟩, by omega⟩, (show 12 ≤ (bn 0).toInt from by omega), (by decide +kernel), all3 (hap.2 (by omega)) ⟨rfl, rfl⟩ ⟨rfl, rfl⟩⟩))⟩, by rw [ht]; exact hP.sub [0, 1, 2, 3, 4, 5, 6, 7, 8] rfl, hD.sub [0, 1, 2, 3, 4, 5, 6, 7, 8] (by decide +kernel) rfl⟩, hS.F ht⟩) hS.2.2 dX12_put_48
      · refine va_aldq hx hb hE.1 hP 1 5 rfl rfl (by unfold vp_in; decide) dX12_put_26 ?_
        refine W.eq (g2 := F0 m 27 ls [.ref t1]) rfl ?_
        refine lv_iload_n hx hb dX12_put_27 rfl (lv_at hl 2 rfl) ?_
        have hFc := va_free (wc := [(t1, .inr (0, [.int (bn 1), .ref a1])), (a1, .inl (T 0, 12, .inl (bf 1)))]) hD hS hA [4, 7] rfl
        refine va_calli (va_runV (As := [.int x2]) (rest := []) ⟨hx, hb, hml, hown, hts⟩ (c_X1_append l D T _ t1 (bn 1) a1 (bf 1) x2 (by omega)) (cwV 1 hts gX12_put_X1_append rfl rfl rfl hv_X1_append ⟨Nat.le_of_ble_eq_true rfl, Nat.le_of_ble_eq_true rfl⟩) (pW_V (q := (RX1, TX1, 2)) (ci := 0) (q0 := 4) hP hE hD rfl rfl [4, 7] (by decide +kernel) rfl rfl) rfl rfl hl.1 rfl (lv_room (Nat.le_of_ble_eq_true rfl)) dX12_put_28 ⟨Nat.le_of_ble_eq_true rfl, Nat.le_of_ble_eq_true rfl⟩) hS (fun q _ h => hFc q h) hFc (fun r_10 u_11 t H1 locs ht hvm hr_10 hB hz1 hk1 hS => ?_)
        obtain ⟨n_12, f_13⟩ := u_11
        have hinn_12 : 0 ≤ n_12.toInt ∧ n_12.toInt ≤ 12 := hr_10.2.1
        have hap : (((bn 1)).toInt < 12 → n_12.toInt = ((bn 1)).toInt + 1 ∧ f_13 = upd (bf 1) (((bn 1)).toNatClampNeg) x2) ∧ (¬ ((bn 1)).toInt < 12 → n_12 = (bn 1) ∧ f_13 = (bf 1)) := hr_10.2.2
        have hbo : r_10 = if ((bn 1)).toInt < 12 then 1 else 0 := hr_10.1
        obtain ⟨hP1, hD1⟩ := hB
        rw [ht] at hP1
        obtain ⟨hP, hD⟩ := va_repl [(h0, .inr (9, fs0)), (h1, .inl (T 5, 3, .inr (.inr (.inr (.inr (va_up (va_up (va_up (fun _ => none) 0 (some t0)) 1 (some t1)) 2 (some t2))))))), (h2, .inr (1, fs2)), (t0, .inr (0, [.int (bn 0), .ref a0])), (t1, .inr (0, [.int n_12, .ref a1])), (t2, .inr (0, [.int (bn 2), .ref a2])), (a0, .inl (T 0, 12, .inl (bf 0))), (a1, .inl (T 0, 12, .inl f_13)), (a2, .inl (T 0, 12, .inl (bf 2)))] hP hD [4, 7] [4, 7] rfl (by decide +kernel) rfl rfl rfl hk1 hP1
        clear hP1 hD1 hFc
        generalize H1 = H at hP hS ⊢
        rcases bool_post hbo with ⟨c_14, rfl⟩ | ⟨c_14, rfl⟩
        · refine lv_if_eq (tgt := 46) hx hb dX12_put_31 (by decide +kernel) (fun c9 => absurd c9 (by decide +kernel)) (fun _ => ?_)
          refine lv_aload_n hx hb dX12_put_34 rfl (lv_at hl 0 rfl) ?_
          refine va_get (D := D) (ci := 9) (v := .ref h1) (C := RX12) (T := TX12) (N := 11) hx hb hts in_X12_put_X12 hown hE.1 hP 0 rfl rfl 5 (by decide +kernel) (hts (.fieldLink RX12 37 "ClauseBook" "bags" "[LClauseBook$Bag;") (List.mem_of_getElem? (i := 2) rfl)) (fun _ h9 => h9) e0_5 dX12_put_35 ?_
          refine lv_iload_n hx hb dX12_put_38 rfl (lv_at hl 1 rfl) ?_
          refine va_aldq hx hb hE.1 hP 1 5 rfl rfl (by unfold vp_in; decide) dX12_put_39 ?_
          refine W.eq (g2 := F0 m 40 ls [.ref t1]) rfl ?_
          refine va_get (D := D) (ci := 0) (v := .int n_12) (C := RX1) (T := TX1) (N := 2) hx hb hts in_X12_put_X1 hown hE.1 hP 4 rfl rfl 0 (by decide +kernel) (hts (.fieldLink RX12 307 "ClauseBook$Bag" "size" "I") (List.mem_of_getElem? (i := 3) rfl)) (fun _ h9 => h9) rfl dX12_put_40 ?_
          refine lv_goto (tgt := 48) hx hb dX12_put_43 (by decide +kernel) ?_
          exact W.iret hx hb hr (fun t ht hW => ⟨⟨_, ((fun k => [(bn 0), n_12, (bn 2)].getD k 0), (fun k => [(bf 0), f_13, (bf 2)].getD k (bf 0))), rfl, ⟨(show 0 ≤ ((bn 0)).toInt ∧ ((bn 0)).toInt ≤ 12 from by (try subst_vars); first | omega | (rw [dec1 (by omega)]; omega)), (show 0 ≤ (n_12).toInt ∧ (n_12).toInt ≤ 12 from by (try subst_vars); first | omega | (rw [dec1 (by omega)]; omega)), (show 0 ≤ ((bn 2)).toInt ∧ ((bn 2)).toInt ≤ 12 from by (try subst_vars); first | omega | (rw [dec1 (by omega)]; omega)), (Or.inr (Or.inr ⟨⟨⟨by decide, by decide⟩, by omega⟩, (show (bn 1).toInt < 12 from by omega), (show n_12.toInt = (bn 1).toInt + 1 from (hap.1 (by omega)).1), all3 ⟨(fun h9 => absurd h9 (by decide +kernel)), (fun _ => ⟨rfl, rfl⟩)⟩ ⟨(fun _ => ⟨rfl, (hap.1 (by omega)).2⟩), (fun h9 => absurd (by decide +kernel) h9)⟩ ⟨(fun h9 => absurd h9 (by decide +kernel)), (fun _ => ⟨rfl, rfl⟩)⟩⟩))⟩, by rw [ht]; exact hP.sub [0, 1, 2, 3, 4, 5, 6, 7, 8] rfl, hD.sub [0, 1, 2, 3, 4, 5, 6, 7, 8] (by decide +kernel) rfl⟩, hS.F ht⟩) hS.2.2 dX12_put_48
        · refine lv_if_eq (tgt := 46) hx hb dX12_put_31 (by decide +kernel) (fun _ => ?_) (fun c9 => absurd c9 (by decide +kernel))
          refine lv_bipush (v := (-4)) hx hb dX12_put_46 (by decide +kernel) ?_
          exact W.iret hx hb hr (fun t ht hW => ⟨⟨_, ((fun k => [(bn 0), n_12, (bn 2)].getD k 0), (fun k => [(bf 0), f_13, (bf 2)].getD k (bf 0))), rfl, ⟨(show 0 ≤ ((bn 0)).toInt ∧ ((bn 0)).toInt ≤ 12 from by (try subst_vars); first | omega | (rw [dec1 (by omega)]; omega)), (show 0 ≤ (n_12).toInt ∧ (n_12).toInt ≤ 12 from by (try subst_vars); first | omega | (rw [dec1 (by omega)]; omega)), (show 0 ≤ ((bn 2)).toInt ∧ ((bn 2)).toInt ≤ 12 from by (try subst_vars); first | omega | (rw [dec1 (by omega)]; omega)), (Or.inr (Or.inl ⟨⟨⟨by decide, by decide⟩, by omega⟩, (show 12 ≤ (bn 1).toInt from by omega), (by decide +kernel), all3 ⟨rfl, rfl⟩ (hap.2 (by omega)) ⟨rfl, rfl⟩⟩))⟩, by rw [ht]; exact hP.sub [0, 1, 2, 3, 4, 5, 6, 7, 8] rfl, hD.sub [0, 1, 2, 3, 4, 5, 6, 7, 8] (by decide +kernel) rfl⟩, hS.F ht⟩) hS.2.2 dX12_put_48
      · refine va_aldq hx hb hE.1 hP 1 5 rfl rfl (by unfold vp_in; decide) dX12_put_26 ?_
        refine W.eq (g2 := F0 m 27 ls [.ref t2]) rfl ?_
        refine lv_iload_n hx hb dX12_put_27 rfl (lv_at hl 2 rfl) ?_
        have hFc := va_free (wc := [(t2, .inr (0, [.int (bn 2), .ref a2])), (a2, .inl (T 0, 12, .inl (bf 2)))]) hD hS hA [5, 8] rfl
        refine va_calli (va_runV (As := [.int x2]) (rest := []) ⟨hx, hb, hml, hown, hts⟩ (c_X1_append l D T _ t2 (bn 2) a2 (bf 2) x2 (by omega)) (cwV 1 hts gX12_put_X1_append rfl rfl rfl hv_X1_append ⟨Nat.le_of_ble_eq_true rfl, Nat.le_of_ble_eq_true rfl⟩) (pW_V (q := (RX1, TX1, 2)) (ci := 0) (q0 := 5) hP hE hD rfl rfl [5, 8] (by decide +kernel) rfl rfl) rfl rfl hl.1 rfl (lv_room (Nat.le_of_ble_eq_true rfl)) dX12_put_28 ⟨Nat.le_of_ble_eq_true rfl, Nat.le_of_ble_eq_true rfl⟩) hS (fun q _ h => hFc q h) hFc (fun r_15 u_16 t H1 locs ht hvm hr_15 hB hz1 hk1 hS => ?_)
        obtain ⟨n_17, f_18⟩ := u_16
        have hinn_17 : 0 ≤ n_17.toInt ∧ n_17.toInt ≤ 12 := hr_15.2.1
        have hap : (((bn 2)).toInt < 12 → n_17.toInt = ((bn 2)).toInt + 1 ∧ f_18 = upd (bf 2) (((bn 2)).toNatClampNeg) x2) ∧ (¬ ((bn 2)).toInt < 12 → n_17 = (bn 2) ∧ f_18 = (bf 2)) := hr_15.2.2
        have hbo : r_15 = if ((bn 2)).toInt < 12 then 1 else 0 := hr_15.1
        obtain ⟨hP1, hD1⟩ := hB
        rw [ht] at hP1
        obtain ⟨hP, hD⟩ := va_repl [(h0, .inr (9, fs0)), (h1, .inl (T 5, 3, .inr (.inr (.inr (.inr (va_up (va_up (va_up (fun _ => none) 0 (some t0)) 1 (some t1)) 2 (some t2))))))), (h2, .inr (1, fs2)), (t0, .inr (0, [.int (bn 0), .ref a0])), (t1, .inr (0, [.int (bn 1), .ref a1])), (t2, .inr (0, [.int n_17, .ref a2])), (a0, .inl (T 0, 12, .inl (bf 0))), (a1, .inl (T 0, 12, .inl (bf 1))), (a2, .inl (T 0, 12, .inl f_18))] hP hD [5, 8] [5, 8] rfl (by decide +kernel) rfl rfl rfl hk1 hP1
        clear hP1 hD1 hFc
        generalize H1 = H at hP hS ⊢
        rcases bool_post hbo with ⟨c_19, rfl⟩ | ⟨c_19, rfl⟩
        · refine lv_if_eq (tgt := 46) hx hb dX12_put_31 (by decide +kernel) (fun c9 => absurd c9 (by decide +kernel)) (fun _ => ?_)
          refine lv_aload_n hx hb dX12_put_34 rfl (lv_at hl 0 rfl) ?_
          refine va_get (D := D) (ci := 9) (v := .ref h1) (C := RX12) (T := TX12) (N := 11) hx hb hts in_X12_put_X12 hown hE.1 hP 0 rfl rfl 5 (by decide +kernel) (hts (.fieldLink RX12 37 "ClauseBook" "bags" "[LClauseBook$Bag;") (List.mem_of_getElem? (i := 2) rfl)) (fun _ h9 => h9) e0_5 dX12_put_35 ?_
          refine lv_iload_n hx hb dX12_put_38 rfl (lv_at hl 1 rfl) ?_
          refine va_aldq hx hb hE.1 hP 1 5 rfl rfl (by unfold vp_in; decide) dX12_put_39 ?_
          refine W.eq (g2 := F0 m 40 ls [.ref t2]) rfl ?_
          refine va_get (D := D) (ci := 0) (v := .int n_17) (C := RX1) (T := TX1) (N := 2) hx hb hts in_X12_put_X1 hown hE.1 hP 5 rfl rfl 0 (by decide +kernel) (hts (.fieldLink RX12 307 "ClauseBook$Bag" "size" "I") (List.mem_of_getElem? (i := 3) rfl)) (fun _ h9 => h9) rfl dX12_put_40 ?_
          refine lv_goto (tgt := 48) hx hb dX12_put_43 (by decide +kernel) ?_
          exact W.iret hx hb hr (fun t ht hW => ⟨⟨_, ((fun k => [(bn 0), (bn 1), n_17].getD k 0), (fun k => [(bf 0), (bf 1), f_18].getD k (bf 0))), rfl, ⟨(show 0 ≤ ((bn 0)).toInt ∧ ((bn 0)).toInt ≤ 12 from by (try subst_vars); first | omega | (rw [dec1 (by omega)]; omega)), (show 0 ≤ ((bn 1)).toInt ∧ ((bn 1)).toInt ≤ 12 from by (try subst_vars); first | omega | (rw [dec1 (by omega)]; omega)), (show 0 ≤ (n_17).toInt ∧ (n_17).toInt ≤ 12 from by (try subst_vars); first | omega | (rw [dec1 (by omega)]; omega)), (Or.inr (Or.inr ⟨⟨⟨by decide, by decide⟩, by omega⟩, (show (bn 2).toInt < 12 from by omega), (show n_17.toInt = (bn 2).toInt + 1 from (hap.1 (by omega)).1), all3 ⟨(fun h9 => absurd h9 (by decide +kernel)), (fun _ => ⟨rfl, rfl⟩)⟩ ⟨(fun h9 => absurd h9 (by decide +kernel)), (fun _ => ⟨rfl, rfl⟩)⟩ ⟨(fun _ => ⟨rfl, (hap.1 (by omega)).2⟩), (fun h9 => absurd (by decide +kernel) h9)⟩⟩))⟩, by rw [ht]; exact hP.sub [0, 1, 2, 3, 4, 5, 6, 7, 8] rfl, hD.sub [0, 1, 2, 3, 4, 5, 6, 7, 8] (by decide +kernel) rfl⟩, hS.F ht⟩) hS.2.2 dX12_put_48
        · refine lv_if_eq (tgt := 46) hx hb dX12_put_31 (by decide +kernel) (fun _ => ?_) (fun c9 => absurd c9 (by decide +kernel))
          refine lv_bipush (v := (-4)) hx hb dX12_put_46 (by decide +kernel) ?_
          exact W.iret hx hb hr (fun t ht hW => ⟨⟨_, ((fun k => [(bn 0), (bn 1), n_17].getD k 0), (fun k => [(bf 0), (bf 1), f_18].getD k (bf 0))), rfl, ⟨(show 0 ≤ ((bn 0)).toInt ∧ ((bn 0)).toInt ≤ 12 from by (try subst_vars); first | omega | (rw [dec1 (by omega)]; omega)), (show 0 ≤ ((bn 1)).toInt ∧ ((bn 1)).toInt ≤ 12 from by (try subst_vars); first | omega | (rw [dec1 (by omega)]; omega)), (show 0 ≤ (n_17).toInt ∧ (n_17).toInt ≤ 12 from by (try subst_vars); first | omega | (rw [dec1 (by omega)]; omega)), (Or.inr (Or.inl ⟨⟨⟨by decide, by decide⟩, by omega⟩, (show 12 ≤ (bn 2).toInt from by omega), (by decide +kernel), all3 ⟨rfl, rfl⟩ ⟨rfl, rfl⟩ (hap.2 (by omega))⟩))⟩, by rw [ht]; exact hP.sub [0, 1, 2, 3, 4, 5, 6, 7, 8] rfl, hD.sub [0, 1, 2, 3, 4, 5, 6, 7, 8] (by decide +kernel) rfl⟩, hS.F ht⟩) hS.2.2 dX12_put_48
    · refine lv_if_ne (tgt := 21) hx hb dX12_put_15 (by decide +kernel) (fun c9 => absurd c9 (by decide +kernel)) (fun _ => ?_)
      refine lv_bipush (v := (-2)) hx hb dX12_put_18 (by decide +kernel) ?_
      exact W.iret hx hb hr (fun t ht hW => ⟨⟨_, ((fun k => [(bn 0), (bn 1), (bn 2)].getD k 0), (fun k => [(bf 0), (bf 1), (bf 2)].getD k (bf 0))), rfl, ⟨(show 0 ≤ ((bn 0)).toInt ∧ ((bn 0)).toInt ≤ 12 from by (try subst_vars); first | omega | (rw [dec1 (by omega)]; omega)), (show 0 ≤ ((bn 1)).toInt ∧ ((bn 1)).toInt ≤ 12 from by (try subst_vars); first | omega | (rw [dec1 (by omega)]; omega)), (show 0 ≤ ((bn 2)).toInt ∧ ((bn 2)).toInt ≤ 12 from by (try subst_vars); first | omega | (rw [dec1 (by omega)]; omega)), (Or.inl ⟨(fun h9 => by have h8 := h9.1; have h7 := h9.2; omega), (by decide +kernel), all3 ⟨rfl, rfl⟩ ⟨rfl, rfl⟩ ⟨rfl, rfl⟩⟩)⟩, by rw [ht]; exact hP.sub [0, 1, 2, 3, 4, 5, 6, 7, 8] rfl, hD.sub [0, 1, 2, 3, 4, 5, 6, 7, 8] (by decide +kernel) rfl⟩, hS.F ht⟩) hS.2.2 dX12_put_20
  · refine lv_if_eq (tgt := 18) hx hb dX12_put_4 (by decide +kernel) (fun _ => ?_) (fun c9 => absurd c9 (by decide +kernel))
    refine lv_bipush (v := (-2)) hx hb dX12_put_18 (by decide +kernel) ?_
    exact W.iret hx hb hr (fun t ht hW => ⟨⟨_, ((fun k => [(bn 0), (bn 1), (bn 2)].getD k 0), (fun k => [(bf 0), (bf 1), (bf 2)].getD k (bf 0))), rfl, ⟨(show 0 ≤ ((bn 0)).toInt ∧ ((bn 0)).toInt ≤ 12 from by (try subst_vars); first | omega | (rw [dec1 (by omega)]; omega)), (show 0 ≤ ((bn 1)).toInt ∧ ((bn 1)).toInt ≤ 12 from by (try subst_vars); first | omega | (rw [dec1 (by omega)]; omega)), (show 0 ≤ ((bn 2)).toInt ∧ ((bn 2)).toInt ≤ 12 from by (try subst_vars); first | omega | (rw [dec1 (by omega)]; omega)), (Or.inl ⟨(fun h9 => by have h8 := h9.1; have h7 := h9.2; omega), (by decide +kernel), all3 ⟨rfl, rfl⟩ ⟨rfl, rfl⟩ ⟨rfl, rfl⟩⟩)⟩, by rw [ht]; exact hP.sub [0, 1, 2, 3, 4, 5, 6, 7, 8] rfl, hD.sub [0, 1, 2, 3, 4, 5, 6, 7, 8] (by decide +kernel) rfl⟩, hS.F ht⟩) hS.2.2 dX12_put_20
theorem dX12_take_0 : decode cX12_take 0 = .ok (.iload_n 1, 1) := by decide +kernel
theorem dX12_take_1 : decode cX12_take 1 = .ok (.invokestatic 300, 3) := by decide +kernel
theorem dX12_take_10 : decode cX12_take 10 = .ok (.aload_n 0, 1) := by decide +kernel
theorem dX12_take_11 : decode cX12_take 11 = .ok (.getfield 37, 3) := by decide +kernel
theorem dX12_take_14 : decode cX12_take 14 = .ok (.iload_n 1, 1) := by decide +kernel
theorem dX12_take_15 : decode cX12_take 15 = .ok (.aaload, 1) := by decide +kernel
theorem dX12_take_16 : decode cX12_take 16 = .ok (.astore_n 2, 1) := by decide +kernel
theorem dX12_take_17 : decode cX12_take 17 = .ok (.aload_n 2, 1) := by decide +kernel
theorem dX12_take_18 : decode cX12_take 18 = .ok (.getfield 307, 3) := by decide +kernel
theorem dX12_take_21 : decode cX12_take 21 = .ok (.ifCond .gt 5, 3) := by decide +kernel
theorem dX12_take_24 : decode cX12_take 24 = .ok (.iconst (-1), 1) := by decide +kernel
theorem dX12_take_25 : decode cX12_take 25 = .ok (.ireturn, 1) := by decide +kernel
theorem dX12_take_26 : decode cX12_take 26 = .ok (.aload_n 2, 1) := by decide +kernel
theorem dX12_take_27 : decode cX12_take 27 = .ok (.dup, 1) := by decide +kernel
theorem dX12_take_28 : decode cX12_take 28 = .ok (.getfield 307, 3) := by decide +kernel
theorem dX12_take_31 : decode cX12_take 31 = .ok (.iconst 1, 1) := by decide +kernel
theorem dX12_take_32 : decode cX12_take 32 = .ok (.isub, 1) := by decide +kernel
theorem dX12_take_33 : decode cX12_take 33 = .ok (.putfield 307, 3) := by decide +kernel
theorem dX12_take_36 : decode cX12_take 36 = .ok (.aload_n 2, 1) := by decide +kernel
theorem dX12_take_37 : decode cX12_take 37 = .ok (.getfield 308, 3) := by decide +kernel
theorem dX12_take_4 : decode cX12_take 4 = .ok (.ifCond .ne 6, 3) := by decide +kernel
theorem dX12_take_40 : decode cX12_take 40 = .ok (.aload_n 2, 1) := by decide +kernel
theorem dX12_take_41 : decode cX12_take 41 = .ok (.getfield 307, 3) := by decide +kernel
theorem dX12_take_44 : decode cX12_take 44 = .ok (.iaload, 1) := by decide +kernel
theorem dX12_take_45 : decode cX12_take 45 = .ok (.ireturn, 1) := by decide +kernel
theorem dX12_take_7 : decode cX12_take 7 = .ok (.bipush (-2), 2) := by decide +kernel
theorem dX12_take_9 : decode cX12_take 9 = .ok (.ireturn, 1) := by decide +kernel
set_option maxRecDepth 20000 in
theorem ggX12_take_X12_isBag : GoodIn wsX12_take wsX12_isBag := goodIn_r _ [7, 8, 9, 6, 10] rfl (by decide +kernel)
set_option maxRecDepth 20000 in
theorem gX12_take_X12_isBag : GoodIn wsX12_take (va_wsS RX12 300 yX12_isBag wsX12_isBag) := goodIn_app (goodIn_of _ (by decide +kernel)) ggX12_take_X12_isBag
set_option maxRecDepth 20000 in
theorem in_X12_take_X1 : ∀ w ∈ wsX10, w ∈ wsX12_take := sub_r [22, 23] rfl
set_option maxRecDepth 20000 in
theorem in_X12_take_X12 : ∀ w ∈ wsX120, w ∈ wsX12_take := sub_r [11, 12, 13, 14, 15, 16, 17, 18, 19, 20, 21] rfl
set_option maxHeartbeats 4000000 in
set_option maxRecDepth 100000 in
theorem c_X12_take (l : Launch) (D : va_G) (T : Nat → ClassId) (sz : Nat) (h0 : Nat) (h1 : Nat) (fs0 : List Value) (t0 : Nat) (t1 : Nat) (t2 : Nat) (a0 : Nat) (a1 : Nat) (a2 : Nat) (bn : Nat → Int32) (bf : Nat → Nat → Int32) (x1 : Int32) (e0_5 : fs0[5]? = some (.ref h1)) (hb0 : 0 ≤ (bn 0).toInt ∧ (bn 0).toInt ≤ 12) (hb1 : 0 ≤ (bn 1).toInt ∧ (bn 1).toInt ≤ 12) (hb2 : 0 ≤ (bn 2).toInt ∧ (bn 2).toInt ≤ 12) : Met l yX12_take wsX12_take ({ frames := 2, cells := 0, slots := 0, locals := 42 }) (pW [.ref h0, .int x1] D T [(h0, .inr (9, fs0)), (h1, .inl (T 5, 3, .inr (.inr (.inr (.inr (va_up (va_up (va_up (fun _ => none) 0 (some t0)) 1 (some t1)) 2 (some t2))))))), (t0, .inr (0, [.int (bn 0), .ref a0])), (t1, .inr (0, [.int (bn 1), .ref a1])), (t2, .inr (0, [.int (bn 2), .ref a2])), (a0, .inl (T 0, 12, .inl (bf 0))), (a1, .inl (T 0, 12, .inl (bf 1))), (a2, .inl (T 0, 12, .inl (bf 2)))] sz) (va_Qi (fun (r : Int32) (u : (Nat → Int32) × (Nat → Nat → Int32)) => (0 ≤ (u.1 0).toInt ∧ (u.1 0).toInt ≤ 12) ∧ (0 ≤ (u.1 1).toInt ∧ (u.1 1).toInt ≤ 12) ∧ (0 ≤ (u.1 2).toInt ∧ (u.1 2).toInt ≤ 12) ∧ takeC x1 r bn u.1 bf u.2) (bW D (va_A [(h0, .inr (9, fs0)), (h1, .inl (T 5, 3, .inr (.inr (.inr (.inr (va_up (va_up (va_up (fun _ => none) 0 (some t0)) 1 (some t1)) 2 (some t2))))))), (t0, .inr (0, [.int (bn 0), .ref a0])), (t1, .inr (0, [.int (bn 1), .ref a1])), (t2, .inr (0, [.int (bn 2), .ref a2])), (a0, .inl (T 0, 12, .inl (bf 0))), (a1, .inl (T 0, 12, .inl (bf 1))), (a2, .inl (T 0, 12, .inl (bf 2)))] sz) (fun (u : (Nat → Int32) × (Nat → Nat → Int32)) => [(h0, .inr (9, fs0)), (h1, .inl (T 5, 3, .inr (.inr (.inr (.inr (va_up (va_up (va_up (fun _ => none) 0 (some t0)) 1 (some t1)) 2 (some t2))))))), (t0, .inr (0, [.int (u.1 0), .ref a0])), (t1, .inr (0, [.int (u.1 1), .ref a1])), (t2, .inr (0, [.int (u.1 2), .ref a2])), (a0, .inl (T 0, 12, .inl (u.2 0))), (a1, .inl (T 0, 12, .inl (u.2 1))), (a2, .inl (T 0, 12, .inl (u.2 2)))])) (va_A [(h0, .inr (9, fs0)), (h1, .inl (T 5, 3, .inr (.inr (.inr (.inr (va_up (va_up (va_up (fun _ => none) 0 (some t0)) 1 (some t1)) 2 (some t2))))))), (t0, .inr (0, [.int (bn 0), .ref a0])), (t1, .inr (0, [.int (bn 1), .ref a1])), (t2, .inr (0, [.int (bn 2), .ref a2])), (a0, .inl (T 0, 12, .inl (bf 0))), (a1, .inl (T 0, 12, .inl (bf 1))), (a2, .inl (T 0, 12, .inl (bf 2)))] sz)) 0 0 (va_A [(h0, .inr (9, fs0)), (h1, .inl (T 5, 3, .inr (.inr (.inr (.inr (va_up (va_up (va_up (fun _ => none) 0 (some t0)) 1 (some t1)) 2 (some t2))))))), (t0, .inr (0, [.int (bn 0), .ref a0])), (t1, .inr (0, [.int (bn 1), .ref a1])), (t2, .inr (0, [.int (bn 2), .ref a2])), (a0, .inl (T 0, 12, .inl (bf 0))), (a1, .inl (T 0, 12, .inl (bf 1))), (a2, .inl (T 0, 12, .inl (bf 2)))] sz) := by
  refine Met.ofW (cc := cX12_take) (maxL := 3) (ret := (some .int)) (by decide +kernel) rfl ?_
  intro p e s m args below meth c s₁ B hml hv
  obtain ⟨rfl, hsz, hP, hE, hD0⟩ := hv
  have hx := B.exec
  have hb := B.bytes
  have hr := B.returns
  have hts := atoms_spec (ws := wsX12_take) B.pre
  have hown : s.vm.findClass RX12 = some m.cls := findClass_of_methodNamed B.named
  have hlocks := B.notSynchronized
  subst hsz
  have hD := hD0.self (sz := s.heap.size)
  generalize hAe : va_A [(h0, .inr (9, fs0)), (h1, .inl (T 5, 3, .inr (.inr (.inr (.inr (va_up (va_up (va_up (fun _ => none) 0 (some t0)) 1 (some t1)) 2 (some t2))))))), (t0, .inr (0, [.int (bn 0), .ref a0])), (t1, .inr (0, [.int (bn 1), .ref a1])), (t2, .inr (0, [.int (bn 2), .ref a2])), (a0, .inl (T 0, 12, .inl (bf 0))), (a1, .inl (T 0, 12, .inl (bf 1))), (a2, .inl (T 0, 12, .inl (bf 2)))] s.heap.size = A at hD ⊢
  have hA : ∀ q : Nat, s.heap.size ≤ q → A q := fun q h => by rw [← hAe]; exact Or.inr h
  have hS : va_S A s.heap s.heap [] := va_S.rf
  have hP : va_P D vwCl [(h0, .inr (9, fs0)), (h1, .inl (T 5, 3, .inr (.inr (.inr (.inr (va_up (va_up (va_up (fun _ => none) 0 (some t0)) 1 (some t1)) 2 (some t2))))))), (t0, .inr (0, [.int (bn 0), .ref a0])), (t1, .inr (0, [.int (bn 1), .ref a1])), (t2, .inr (0, [.int (bn 2), .ref a2])), (a0, .inl (T 0, 12, .inl (bf 0))), (a1, .inl (T 0, 12, .inl (bf 1))), (a2, .inl (T 0, 12, .inl (bf 2)))] s.heap := hP
  have hl := lv_entry ([.ref h0, .int x1]) (n := 3) (Nat.le_of_ble_eq_true rfl)
  rw [lg_entry_eq]
  generalize (lg_sl ([.ref h0, .int x1]) ++ List.replicate (3 - (lg_sl ([.ref h0, .int x1])).length) Slot.unset).toArray = ls at hl ⊢
  have hl : lv_has ls 3 [(0, .ref h0), (1, .int x1)] := hl
  clear hD0
  refine lv_iload_n hx hb dX12_take_0 rfl (lv_at hl 1 rfl) ?_
  refine vp_callSi (W.runS (As := [.int x1]) (rest := []) ⟨hx, hb, hml, hown, hts⟩ (c_X12_isBag l D T x1) (va_cwS 1 hts gX12_take_X12_isBag rfl rfl rfl hs_X12_isBag ⟨Nat.le_of_ble_eq_true rfl, Nat.le_of_ble_eq_true rfl⟩) (pR_S hP hE [] rfl) rfl rfl hl.1 rfl (lv_room (Nat.le_of_ble_eq_true rfl)) dX12_take_1 ⟨Nat.le_of_ble_eq_true rfl, Nat.le_of_ble_eq_true rfl⟩) (fun r_1 hr_1 => ?_)
  rcases bool_post hr_1 with ⟨c_2, rfl⟩ | ⟨c_2, rfl⟩
  · refine lv_if_ne (tgt := 10) hx hb dX12_take_4 (by decide +kernel) (fun _ => ?_) (fun c9 => absurd c9 (by decide +kernel))
    refine lv_aload_n hx hb dX12_take_10 rfl (lv_at hl 0 rfl) ?_
    refine va_get (D := D) (ci := 9) (v := .ref h1) (C := RX12) (T := TX12) (N := 11) hx hb hts in_X12_take_X12 hown hE.1 hP 0 rfl rfl 5 (by decide +kernel) (hts (.fieldLink RX12 37 "ClauseBook" "bags" "[LClauseBook$Bag;") (List.mem_of_getElem? (i := 1) rfl)) (fun _ h9 => h9) e0_5 dX12_take_11 ?_
    refine lv_iload_n hx hb dX12_take_14 rfl (lv_at hl 1 rfl) ?_
    rcases in3 (x := x1) (by omega) with rfl | rfl | rfl
    · refine va_aldq hx hb hE.1 hP 1 5 rfl rfl (by unfold vp_in; decide) dX12_take_15 ?_
      refine W.eq (g2 := F0 m 16 ls [.ref t0]) rfl ?_
      refine lv_astore_n (lv' := [(2, .ref t0), (0, .ref h0), (1, .int 0)]) hx hb dX12_take_16 rfl hl (by decide +kernel) rfl (fun ls hl => ?_)
      refine lv_aload_n hx hb dX12_take_17 rfl (lv_at hl 0 rfl) ?_
      refine va_get (D := D) (ci := 0) (v := .int (bn 0)) (C := RX1) (T := TX1) (N := 2) hx hb hts in_X12_take_X1 hown hE.1 hP 2 rfl rfl 0 (by decide +kernel) (hts (.fieldLink RX12 307 "ClauseBook$Bag" "size" "I") (List.mem_of_getElem? (i := 2) rfl)) (fun _ h9 => h9) rfl dX12_take_18 ?_
      refine lv_if_gt (tgt := 26) hx hb dX12_take_21 (by decide +kernel) (fun c_3 => ?_) (fun c_3 => ?_)
      · rw [fa_lt] at c_3
        try rw [ti_0] at c_3
        refine lv_aload_n hx hb dX12_take_26 rfl (lv_at hl 0 rfl) ?_
        refine lv_dup hx hb dX12_take_27 rfl ?_
        refine va_get (D := D) (ci := 0) (v := .int (bn 0)) (C := RX1) (T := TX1) (N := 2) hx hb hts in_X12_take_X1 hown hE.1 hP 2 rfl rfl 0 (by decide +kernel) (hts (.fieldLink RX12 307 "ClauseBook$Bag" "size" "I") (List.mem_of_getElem? (i := 2) rfl)) (fun _ h9 => h9) rfl dX12_take_28 ?_
        refine lv_iconst (v := 1) hx hb dX12_take_31 (by decide +kernel) ?_
        refine lv_isub hx hb dX12_take_32 ?_
        refine lv_topi (fun z_4 ez_4 => ?_)
        refine va_put (D := D) (ci := 0) (v := .int z_4) (ty := .int) (C := RX1) (T := TX1) (N := 2) hx hb hts in_X12_take_X1 tyX1 tyX1_ok nmX1 hown hE.1 hP hD hS 2 rfl rfl 0 (by decide +kernel) (hts (.fieldLink RX12 307 "ClauseBook$Bag" "size" "I") (List.mem_of_getElem? (i := 2) rfl)) (fun _ h9 => h9) rfl (by decide +kernel) rfl rfl (Nat.le_of_ble_eq_true rfl) dX12_take_33 (fun H locs hP hD hS => ?_)
        obtain ⟨hP, hD⟩ := wPD [(h0, .inr (9, fs0)), (h1, .inl (T 5, 3, .inr (.inr (.inr (.inr (va_up (va_up (va_up (fun _ => none) 0 (some t0)) 1 (some t1)) 2 (some t2))))))), (t0, .inr (0, [.int z_4, .ref a0])), (t1, .inr (0, [.int (bn 1), .ref a1])), (t2, .inr (0, [.int (bn 2), .ref a2])), (a0, .inl (T 0, 12, .inl (bf 0))), (a1, .inl (T 0, 12, .inl (bf 1))), (a2, .inl (T 0, 12, .inl (bf 2)))] hP hD rfl
        refine lv_aload_n hx hb dX12_take_36 rfl (lv_at hl 0 rfl) ?_
        refine va_get (D := D) (ci := 0) (v := .ref a0) (C := RX1) (T := TX1) (N := 2) hx hb hts in_X12_take_X1 hown hE.1 hP 2 rfl rfl 1 (by decide +kernel) (hts (.fieldLink RX12 308 "ClauseBook$Bag" "numbers" "[I") (List.mem_of_getElem? (i := 3) rfl)) (fun _ h9 => h9) rfl dX12_take_37 ?_
        refine lv_aload_n hx hb dX12_take_40 rfl (lv_at hl 0 rfl) ?_
        refine va_get (D := D) (ci := 0) (v := .int z_4) (C := RX1) (T := TX1) (N := 2) hx hb hts in_X12_take_X1 hown hE.1 hP 2 rfl rfl 0 (by decide +kernel) (hts (.fieldLink RX12 307 "ClauseBook$Bag" "size" "I") (List.mem_of_getElem? (i := 2) rfl)) (fun _ h9 => h9) rfl dX12_take_41 ?_
        refine va_iald hx hb hE.1 hP 5 0 rfl rfl (by rw [vp_in_iff]; first | omega | (subst_vars; rw [dec1 (by omega)]; omega) | (subst_vars; rw [inc1 (n := 1000) (by omega) (by decide +kernel)]; omega)) dX12_take_44 ?_
        refine lv_topi (fun z_5 ez_5 => ?_)
        exact W.iret hx hb hr (fun t ht hW => ⟨⟨_, ((fun k => [z_4, (bn 1), (bn 2)].getD k 0), (fun k => [(bf 0), (bf 1), (bf 2)].getD k (bf 0))), rfl, ⟨(show 0 ≤ (z_4).toInt ∧ (z_4).toInt ≤ 12 from by (try subst_vars); first | omega | (rw [dec1 (by omega)]; omega)), (show 0 ≤ ((bn 1)).toInt ∧ ((bn 1)).toInt ≤ 12 from by (try subst_vars); first | omega | (rw [dec1 (by omega)]; omega)), (show 0 ≤ ((bn 2)).toInt ∧ ((bn 2)).toInt ≤ 12 from by (try subst_vars); first | omega | (rw [dec1 (by omega)]; omega)), (Or.inr (Or.inr ⟨⟨by decide, by decide⟩, (show 0 < (bn 0).toInt from by omega), z_4, (show z_4.toInt = (bn 0).toInt - 1 from by rw [ez_4]; exact dec1 (by omega)), ez_5, all3 ⟨(fun _ => ⟨rfl, rfl⟩), (fun h9 => absurd (by decide +kernel) h9)⟩ ⟨(fun h9 => absurd h9 (by decide +kernel)), (fun _ => ⟨rfl, rfl⟩)⟩ ⟨(fun h9 => absurd h9 (by decide +kernel)), (fun _ => ⟨rfl, rfl⟩)⟩⟩))⟩, by rw [ht]; exact hP.sub [0, 1, 2, 3, 4, 5, 6, 7] rfl, hD.sub [0, 1, 2, 3, 4, 5, 6, 7] (by decide +kernel) rfl⟩, hS.F ht⟩) hS.2.2 dX12_take_45
      · rw [fa_lt] at c_3
        try rw [ti_0] at c_3
        refine lv_iconst (v := (-1)) hx hb dX12_take_24 (by decide +kernel) ?_
        exact W.iret hx hb hr (fun t ht hW => ⟨⟨_, ((fun k => [(bn 0), (bn 1), (bn 2)].getD k 0), (fun k => [(bf 0), (bf 1), (bf 2)].getD k (bf 0))), rfl, ⟨(show 0 ≤ ((bn 0)).toInt ∧ ((bn 0)).toInt ≤ 12 from by (try subst_vars); first | omega | (rw [dec1 (by omega)]; omega)), (show 0 ≤ ((bn 1)).toInt ∧ ((bn 1)).toInt ≤ 12 from by (try subst_vars); first | omega | (rw [dec1 (by omega)]; omega)), (show 0 ≤ ((bn 2)).toInt ∧ ((bn 2)).toInt ≤ 12 from by (try subst_vars); first | omega | (rw [dec1 (by omega)]; omega)), (Or.inr (Or.inl ⟨⟨by decide, by decide⟩, (show (bn 0).toInt ≤ 0 from by omega), (by decide +kernel), all3 ⟨rfl, rfl⟩ ⟨rfl, rfl⟩ ⟨rfl, rfl⟩⟩))⟩, by rw [ht]; exact hP.sub [0, 1, 2, 3, 4, 5, 6, 7] rfl, hD.sub [0, 1, 2, 3, 4, 5, 6, 7] (by decide +kernel) rfl⟩, hS.F ht⟩) hS.2.2 dX12_take_25
    · refine va_aldq hx hb hE.1 hP 1 5 rfl rfl (by unfold vp_in; decide) dX12_take_15 ?_
      refine W.eq (g2 := F0 m 16 ls [.ref t1]) rfl ?_
      refine lv_astore_n (lv' := [(2, .ref t1), (0, .ref h0), (1, .int 1)]) hx hb dX12_take_16 rfl hl (by decide +kernel) rfl (fun ls hl => ?_)
      refine lv_aload_n hx hb dX12_take_17 rfl (lv_at hl 0 rfl) ?_
      refine va_get (D := D) (ci := 0) (v := .int (bn 1)) (C := RX1) (T := TX1) (N := 2) hx hb hts in_X12_take_X1 hown hE.1 hP 3 rfl rfl 0 (by decide +kernel) (hts (.fieldLink RX12 307 "ClauseBook$Bag" "size" "I") (List.mem_of_getElem? (i := 2) rfl)) (fun _ h9 => h9) rfl dX12_take_18 ?_
      refine lv_if_gt (tgt := 26) hx hb dX12_take_21 (by decide +kernel) (fun c_6 => ?_) (fun c_6 => ?_)
      · rw [fa_lt] at c_6
        try rw [ti_0] at c_6
        refine lv_aload_n hx hb dX12_take_26 rfl (lv_at hl 0 rfl) ?_
        refine lv_dup hx hb dX12_take_27 rfl ?_
        refine va_get (D := D) (ci := 0) (v := .int (bn 1)) (C := RX1) (T := TX1) (N := 2) hx hb hts in_X12_take_X1 hown hE.1 hP 3 rfl rfl 0 (by decide +kernel) (hts (.fieldLink RX12 307 "ClauseBook$Bag" "size" "I") (List.mem_of_getElem? (i := 2) rfl)) (fun _ h9 => h9) rfl dX12_take_28 ?_
        refine lv_iconst (v := 1) hx hb dX12_take_31 (by decide +kernel) ?_
        refine lv_isub hx hb dX12_take_32 ?_
        refine lv_topi (fun z_7 ez_7 => ?_)
        refine va_put (D := D) (ci := 0) (v := .int z_7) (ty := .int) (C := RX1) (T := TX1) (N := 2) hx hb hts in_X12_take_X1 tyX1 tyX1_ok nmX1 hown hE.1 hP hD hS 3 rfl rfl 0 (by decide +kernel) (hts (.fieldLink RX12 307 "ClauseBook$Bag" "size" "I") (List.mem_of_getElem? (i := 2) rfl)) (fun _ h9 => h9) rfl (by decide +kernel) rfl rfl (Nat.le_of_ble_eq_true rfl) dX12_take_33 (fun H locs hP hD hS => ?_)
        obtain ⟨hP, hD⟩ := wPD [(h0, .inr (9, fs0)), (h1, .inl (T 5, 3, .inr (.inr (.inr (.inr (va_up (va_up (va_up (fun _ => none) 0 (some t0)) 1 (some t1)) 2 (some t2))))))), (t0, .inr (0, [.int (bn 0), .ref a0])), (t1, .inr (0, [.int z_7, .ref a1])), (t2, .inr (0, [.int (bn 2), .ref a2])), (a0, .inl (T 0, 12, .inl (bf 0))), (a1, .inl (T 0, 12, .inl (bf 1))), (a2, .inl (T 0, 12, .inl (bf 2)))] hP hD rfl
        refine lv_aload_n hx hb dX12_take_36 rfl (lv_at hl 0 rfl) ?_
        refine va_get (D := D) (ci := 0) (v := .ref a1) (C := RX1) (T := TX1) (N := 2) hx hb hts in_X12_take_X1 hown hE.1 hP 3 rfl rfl 1 (by decide +kernel) (hts (.fieldLink RX12 308 "ClauseBook$Bag" "numbers" "[I") (List.mem_of_getElem? (i := 3) rfl)) (fun _ h9 => h9) rfl dX12_take_37 ?_
        refine lv_aload_n hx hb dX12_take_40 rfl (lv_at hl 0 rfl) ?_
        refine va_get (D := D) (ci := 0) (v := .int z_7) (C := RX1) (T := TX1) (N := 2) hx hb hts in_X12_take_X1 hown hE.1 hP 3 rfl rfl 0 (by decide +kernel) (hts (.fieldLink RX12 307 "ClauseBook$Bag" "size" "I") (List.mem_of_getElem? (i := 2) rfl)) (fun _ h9 => h9) rfl dX12_take_41 ?_
        refine va_iald hx hb hE.1 hP 6 0 rfl rfl (by rw [vp_in_iff]; first | omega | (subst_vars; rw [dec1 (by omega)]; omega) | (subst_vars; rw [inc1 (n := 1000) (by omega) (by decide +kernel)]; omega)) dX12_take_44 ?_
        refine lv_topi (fun z_8 ez_8 => ?_)
        exact W.iret hx hb hr (fun t ht hW => ⟨⟨_, ((fun k => [(bn 0), z_7, (bn 2)].getD k 0), (fun k => [(bf 0), (bf 1), (bf 2)].getD k (bf 0))), rfl, ⟨(show 0 ≤ ((bn 0)).toInt ∧ ((bn 0)).toInt ≤ 12 from by (try subst_vars); first | omega | (rw [dec1 (by omega)]; omega)), (show 0 ≤ (z_7).toInt ∧ (z_7).toInt ≤ 12 from by (try subst_vars); first | omega | (rw [dec1 (by omega)]; omega)), (show 0 ≤ ((bn 2)).toInt ∧ ((bn 2)).toInt ≤ 12 from by (try subst_vars); first | omega | (rw [dec1 (by omega)]; omega)), (Or.inr (Or.inr ⟨⟨by decide, by decide⟩, (show 0 < (bn 1).toInt from by omega), z_7, (show z_7.toInt = (bn 1).toInt - 1 from by rw [ez_7]; exact dec1 (by omega)), ez_8, all3 ⟨(fun h9 => absurd h9 (by decide +kernel)), (fun _ => ⟨rfl, rfl⟩)⟩ ⟨(fun _ => ⟨rfl, rfl⟩), (fun h9 => absurd (by decide +kernel) h9)⟩ ⟨(fun h9 => absurd h9 (by decide +kernel)), (fun _ => ⟨rfl, rfl⟩)⟩⟩))⟩, by rw [ht]; exact hP.sub [0, 1, 2, 3, 4, 5, 6, 7] rfl, hD.sub [0, 1, 2, 3, 4, 5, 6, 7] (by decide +kernel) rfl⟩, hS.F ht⟩) hS.2.2 dX12_take_45
      · rw [fa_lt] at c_6
        try rw [ti_0] at c_6
        refine lv_iconst (v := (-1)) hx hb dX12_take_24 (by decide +kernel) ?_
        exact W.iret hx hb hr (fun t ht hW => ⟨⟨_, ((fun k => [(bn 0), (bn 1), (bn 2)].getD k 0), (fun k => [(bf 0), (bf 1), (bf 2)].getD k (bf 0))), rfl, ⟨(show 0 ≤ ((bn 0)).toInt ∧ ((bn 0)).toInt ≤ 12 from by (try subst_vars); first | omega | (rw [dec1 (by omega)]; omega)), (show 0 ≤ ((bn 1)).toInt ∧ ((bn 1)).toInt ≤ 12 from by (try subst_vars); first | omega | (rw [dec1 (by omega)]; omega)), (show 0 ≤ ((bn 2)).toInt ∧ ((bn 2)).toInt ≤ 12 from by (try subst_vars); first | omega | (rw [dec1 (by omega)]; omega)), (Or.inr (Or.inl ⟨⟨by decide, by decide⟩, (show (bn 1).toInt ≤ 0 from by omega), (by decide +kernel), all3 ⟨rfl, rfl⟩ ⟨rfl, rfl⟩ ⟨rfl, rfl⟩⟩))⟩, by rw [ht]; exact hP.sub [0, 1, 2, 3, 4, 5, 6, 7] rfl, hD.sub [0, 1, 2, 3, 4, 5, 6, 7] (by decide +kernel) rfl⟩, hS.F ht⟩) hS.2.2 dX12_take_25
    · refine va_aldq hx hb hE.1 hP 1 5 rfl rfl (by unfold vp_in; decide) dX12_take_15 ?_
      refine W.eq (g2 := F0 m 16 ls [.ref t2]) rfl ?_
      refine lv_astore_n (lv' := [(2, .ref t2), (0, .ref h0), (1, .int 2)]) hx hb dX12_take_16 rfl hl (by decide +kernel) rfl (fun ls hl => ?_)
      refine lv_aload_n hx hb dX12_take_17 rfl (lv_at hl 0 rfl) ?_
      refine va_get (D := D) (ci := 0) (v := .int (bn 2)) (C := RX1) (T := TX1) (N := 2) hx hb hts in_X12_take_X1 hown hE.1 hP 4 rfl rfl 0 (by decide +kernel) (hts (.fieldLink RX12 307 "ClauseBook$Bag" "size" "I") (List.mem_of_getElem? (i := 2) rfl)) (fun _ h9 => h9) rfl dX12_take_18 ?_
      refine lv_if_gt (tgt := 26) hx hb dX12_take_21 (by decide +kernel) (fun c_9 => ?_) (fun c_9 => ?_)
      · rw [fa_lt] at c_9
        try rw [ti_0] at c_9
        refine lv_aload_n hx hb dX12_take_26 rfl (lv_at hl 0 rfl) ?_
        refine lv_dup hx hb dX12_take_27 rfl ?_
        refine va_get (D := D) (ci := 0) (v := .int (bn 2)) (C := RX1) (T := TX1) (N := 2) hx hb hts in_X12_take_X1 hown hE.1 hP 4 rfl rfl 0 (by decide +kernel) (hts (.fieldLink RX12 307 "ClauseBook$Bag" "size" "I") (List.mem_of_getElem? (i := 2) rfl)) (fun _ h9 => h9) rfl dX12_take_28 ?_
        refine lv_iconst (v := 1) hx hb dX12_take_31 (by decide +kernel) ?_
        refine lv_isub hx hb dX12_take_32 ?_
        refine lv_topi (fun z_10 ez_10 => ?_)
        refine va_put (D := D) (ci := 0) (v := .int z_10) (ty := .int) (C := RX1) (T := TX1) (N := 2) hx hb hts in_X12_take_X1 tyX1 tyX1_ok nmX1 hown hE.1 hP hD hS 4 rfl rfl 0 (by decide +kernel) (hts (.fieldLink RX12 307 "ClauseBook$Bag" "size" "I") (List.mem_of_getElem? (i := 2) rfl)) (fun _ h9 => h9) rfl (by decide +kernel) rfl rfl (Nat.le_of_ble_eq_true rfl) dX12_take_33 (fun H locs hP hD hS => ?_)
        obtain ⟨hP, hD⟩ := wPD [(h0, .inr (9, fs0)), (h1, .inl (T 5, 3, .inr (.inr (.inr (.inr (va_up (va_up (va_up (fun _ => none) 0 (some t0)) 1 (some t1)) 2 (some t2))))))), (t0, .inr (0, [.int (bn 0), .ref a0])), (t1, .inr (0, [.int (bn 1), .ref a1])), (t2, .inr (0, [.int z_10, .ref a2])), (a0, .inl (T 0, 12, .inl (bf 0))), (a1, .inl (T 0, 12, .inl (bf 1))), (a2, .inl (T 0, 12, .inl (bf 2)))] hP hD rfl
        refine lv_aload_n hx hb dX12_take_36 rfl (lv_at hl 0 rfl) ?_
        refine va_get (D := D) (ci := 0) (v := .ref a2) (C := RX1) (T := TX1) (N := 2) hx hb hts in_X12_take_X1 hown hE.1 hP 4 rfl rfl 1 (by decide +kernel) (hts (.fieldLink RX12 308 "ClauseBook$Bag" "numbers" "[I") (List.mem_of_getElem? (i := 3) rfl)) (fun _ h9 => h9) rfl dX12_take_37 ?_
        refine lv_aload_n hx hb dX12_take_40 rfl (lv_at hl 0 rfl) ?_
        refine va_get (D := D) (ci := 0) (v := .int z_10) (C := RX1) (T := TX1) (N := 2) hx hb hts in_X12_take_X1 hown hE.1 hP 4 rfl rfl 0 (by decide +kernel) (hts (.fieldLink RX12 307 "ClauseBook$Bag" "size" "I") (List.mem_of_getElem? (i := 2) rfl)) (fun _ h9 => h9) rfl dX12_take_41 ?_
        refine va_iald hx hb hE.1 hP 7 0 rfl rfl (by rw [vp_in_iff]; first | omega | (subst_vars; rw [dec1 (by omega)]; omega) | (subst_vars; rw [inc1 (n := 1000) (by omega) (by decide +kernel)]; omega)) dX12_take_44 ?_
        refine lv_topi (fun z_11 ez_11 => ?_)
        exact W.iret hx hb hr (fun t ht hW => ⟨⟨_, ((fun k => [(bn 0), (bn 1), z_10].getD k 0), (fun k => [(bf 0), (bf 1), (bf 2)].getD k (bf 0))), rfl, ⟨(show 0 ≤ ((bn 0)).toInt ∧ ((bn 0)).toInt ≤ 12 from by (try subst_vars); first | omega | (rw [dec1 (by omega)]; omega)), (show 0 ≤ ((bn 1)).toInt ∧ ((bn 1)).toInt ≤ 12 from by (try subst_vars); first | omega | (rw [dec1 (by omega)]; omega)), (show 0 ≤ (z_10).toInt ∧ (z_10).toInt ≤ 12 from by (try subst_vars); first | omega | (rw [dec1 (by omega)]; omega)), (Or.inr (Or.inr ⟨⟨by decide, by decide⟩, (show 0 < (bn 2).toInt from by omega), z_10, (show z_10.toInt = (bn 2).toInt - 1 from by rw [ez_10]; exact dec1 (by omega)), ez_11, all3 ⟨(fun h9 => absurd h9 (by decide +kernel)), (fun _ => ⟨rfl, rfl⟩)⟩ ⟨(fun h9 => absurd h9 (by decide +kernel)), (fun _ => ⟨rfl, rfl⟩)⟩ ⟨(fun _ => ⟨rfl, rfl⟩), (fun h9 => absurd (by decide +kernel) h9)⟩⟩))⟩, by rw [ht]; exact hP.sub [0, 1, 2, 3, 4, 5, 6, 7] rfl, hD.sub [0, 1, 2, 3, 4, 5, 6, 7] (by decide +kernel) rfl⟩, hS.F ht⟩) hS.2.2 dX12_take_45
      · rw [fa_lt] at c_9
        try rw [ti_0] at c_9
        refine lv_iconst (v := (-1)) hx hb dX12_take_24 (by decide +kernel) ?_
        exact W.iret hx hb hr (fun t ht hW => ⟨⟨_, ((fun k => [(bn 0), (bn 1), (bn 2)].getD k 0), (fun k => [(bf 0), (bf 1), (bf 2)].getD k (bf 0))), rfl, ⟨(show 0 ≤ ((bn 0)).toInt ∧ ((bn 0)).toInt ≤ 12 from by (try subst_vars); first | omega | (rw [dec1 (by omega)]; omega)), (show 0 ≤ ((bn 1)).toInt ∧ ((bn 1)).toInt ≤ 12 from by (try subst_vars); first | omega | (rw [dec1 (by omega)]; omega)), (show 0 ≤ ((bn 2)).toInt ∧ ((bn 2)).toInt ≤ 12 from by (try subst_vars); first | omega | (rw [dec1 (by omega)]; omega)), (Or.inr (Or.inl ⟨⟨by decide, by decide⟩, (show (bn 2).toInt ≤ 0 from by omega), (by decide +kernel), all3 ⟨rfl, rfl⟩ ⟨rfl, rfl⟩ ⟨rfl, rfl⟩⟩))⟩, by rw [ht]; exact hP.sub [0, 1, 2, 3, 4, 5, 6, 7] rfl, hD.sub [0, 1, 2, 3, 4, 5, 6, 7] (by decide +kernel) rfl⟩, hS.F ht⟩) hS.2.2 dX12_take_25
  · refine lv_if_ne (tgt := 10) hx hb dX12_take_4 (by decide +kernel) (fun c9 => absurd c9 (by decide +kernel)) (fun _ => ?_)
    refine lv_bipush (v := (-2)) hx hb dX12_take_7 (by decide +kernel) ?_
    exact W.iret hx hb hr (fun t ht hW => ⟨⟨_, ((fun k => [(bn 0), (bn 1), (bn 2)].getD k 0), (fun k => [(bf 0), (bf 1), (bf 2)].getD k (bf 0))), rfl, ⟨(show 0 ≤ ((bn 0)).toInt ∧ ((bn 0)).toInt ≤ 12 from by (try subst_vars); first | omega | (rw [dec1 (by omega)]; omega)), (show 0 ≤ ((bn 1)).toInt ∧ ((bn 1)).toInt ≤ 12 from by (try subst_vars); first | omega | (rw [dec1 (by omega)]; omega)), (show 0 ≤ ((bn 2)).toInt ∧ ((bn 2)).toInt ≤ 12 from by (try subst_vars); first | omega | (rw [dec1 (by omega)]; omega)), (Or.inl ⟨(by omega), (by decide +kernel), all3 ⟨rfl, rfl⟩ ⟨rfl, rfl⟩ ⟨rfl, rfl⟩⟩)⟩, by rw [ht]; exact hP.sub [0, 1, 2, 3, 4, 5, 6, 7] rfl, hD.sub [0, 1, 2, 3, 4, 5, 6, 7] (by decide +kernel) rfl⟩, hS.F ht⟩) hS.2.2 dX12_take_9
