/-- drop() -/
def dropC (n0 r u0 : Int32) : Prop := (n0.toInt ≤ 0 ∧ r.toInt = -3 ∧ u0 = n0) ∨ (0 < n0.toInt ∧ r = u0 ∧ u0.toInt = n0.toInt - 1)
theorem dX12_drop_0 : decode cX12_drop 0 = .ok (.aload_n 0, 1) := by decide +kernel
theorem dX12_drop_1 : decode cX12_drop 1 = .ok (.getfield 32, 3) := by decide +kernel
theorem dX12_drop_10 : decode cX12_drop 10 = .ok (.bipush (-3), 2) := by decide +kernel
theorem dX12_drop_12 : decode cX12_drop 12 = .ok (.ireturn, 1) := by decide +kernel
theorem dX12_drop_13 : decode cX12_drop 13 = .ok (.aload_n 0, 1) := by decide +kernel
theorem dX12_drop_14 : decode cX12_drop 14 = .ok (.getfield 32, 3) := by decide +kernel
theorem dX12_drop_17 : decode cX12_drop 17 = .ok (.dup, 1) := by decide +kernel
theorem dX12_drop_18 : decode cX12_drop 18 = .ok (.getfield 138, 3) := by decide +kernel
theorem dX12_drop_21 : decode cX12_drop 21 = .ok (.iconst 1, 1) := by decide +kernel
theorem dX12_drop_22 : decode cX12_drop 22 = .ok (.isub, 1) := by decide +kernel
theorem dX12_drop_23 : decode cX12_drop 23 = .ok (.putfield 138, 3) := by decide +kernel
theorem dX12_drop_26 : decode cX12_drop 26 = .ok (.aload_n 0, 1) := by decide +kernel
theorem dX12_drop_27 : decode cX12_drop 27 = .ok (.getfield 43, 3) := by decide +kernel
theorem dX12_drop_30 : decode cX12_drop 30 = .ok (.invokevirtual 93, 3) := by decide +kernel
theorem dX12_drop_33 : decode cX12_drop 33 = .ok (.aload_n 0, 1) := by decide +kernel
theorem dX12_drop_34 : decode cX12_drop 34 = .ok (.getfield 32, 3) := by decide +kernel
theorem dX12_drop_37 : decode cX12_drop 37 = .ok (.getfield 138, 3) := by decide +kernel
theorem dX12_drop_4 : decode cX12_drop 4 = .ok (.getfield 138, 3) := by decide +kernel
theorem dX12_drop_40 : decode cX12_drop 40 = .ok (.ireturn, 1) := by decide +kernel
theorem dX12_drop_7 : decode cX12_drop 7 = .ok (.ifCond .gt 6, 3) := by decide +kernel
set_option maxRecDepth 20000 in
theorem ggX12_drop_X11_forget : GoodIn wsX12_drop wsX11_forget := goodIn_r _ [8, 9, 29, 30, 31, 32, 33, 34] rfl (by decide +kernel)
set_option maxRecDepth 20000 in
theorem gX12_drop_X11_forget : GoodIn wsX12_drop (wsV RX12 93 RX11 yX11_forget wsX11_forget) := goodIn_app (goodIn_r _ [4, 5, 6, 7] rfl (by decide +kernel)) ggX12_drop_X11_forget
set_option maxRecDepth 20000 in
theorem in_X12_drop_X12 : ∀ w ∈ wsX120, w ∈ wsX12_drop := sub_r [10, 11, 12, 13, 14, 15, 16, 17, 18, 19, 20] rfl
set_option maxRecDepth 20000 in
theorem in_X12_drop_X2 : ∀ w ∈ wsX20, w ∈ wsX12_drop := sub_r [21, 22, 23, 24, 25, 26, 27, 28] rfl
set_option maxHeartbeats 4000000 in
set_option maxRecDepth 100000 in
theorem c_X12_drop (l : Launch) (D : va_G) (T : Nat → ClassId) (sz : Nat) (h0 : Nat) (h1 : Nat) (h2 : Nat) (fs0 : List Value) (n9 : Int32) (c1 : Value) (c2 : Value) (c3 : Value) (c4 : Value) (c5 : Value) (c6 : Value) (c7 : Value) (v0 : Value) (v1 : Value) (v2 : Value) (v3 : Value) (v4 : Value) (n : Int32) (e0_4 : fs0[4]? = some (.ref h1)) (e0_6 : fs0[6]? = some (.ref h2)) (hn : 0 ≤ n9.toInt ∧ n9.toInt ≤ 24) : Met l yX12_drop wsX12_drop ({ frames := 1, cells := 0, slots := 0, locals := 20 }) (pW [.ref h0] D T [(h0, .inr (9, fs0)), (h1, .inr (1, [.int n9, c1, c2, c3, c4, c5, c6, c7])), (h2, .inr (8, [v0, v1, v2, v3, v4, .int n]))] sz) (va_Qi (fun (r : Int32) (u : Nat → Int32) => (0 ≤ (u 0).toInt ∧ (u 0).toInt ≤ 24) ∧ dropC n9 r (u 0) ∧ agW ((u 0) = n9) n (u 1)) (bW D (va_A [(h0, .inr (9, fs0)), (h1, .inr (1, [.int n9, c1, c2, c3, c4, c5, c6, c7])), (h2, .inr (8, [v0, v1, v2, v3, v4, .int n]))] sz) (fun (u : Nat → Int32) => [(h0, .inr (9, fs0)), (h1, .inr (1, [.int (u 0), c1, c2, c3, c4, c5, c6, c7])), (h2, .inr (8, [v0, v1, v2, v3, v4, .int (u 1)]))])) (va_A [(h0, .inr (9, fs0)), (h1, .inr (1, [.int n9, c1, c2, c3, c4, c5, c6, c7])), (h2, .inr (8, [v0, v1, v2, v3, v4, .int n]))] sz)) 0 0 (va_A [(h0, .inr (9, fs0)), (h1, .inr (1, [.int n9, c1, c2, c3, c4, c5, c6, c7])), (h2, .inr (8, [v0, v1, v2, v3, v4, .int n]))] sz) := by
  refine Met.ofW (cc := cX12_drop) (maxL := 1) (ret := (some .int)) (by decide +kernel) rfl ?_
  intro p e s m args below meth c s₁ B hml hv
  obtain ⟨rfl, hsz, hP, hE, hD0⟩ := hv
  have hx := B.exec
  have hb := B.bytes
  have hr := B.returns
  have hts := atoms_spec (ws := wsX12_drop) B.pre
  have hown : s.vm.findClass RX12 = some m.cls := findClass_of_methodNamed B.named
  have hlocks := B.notSynchronized
  subst hsz
  have hD := hD0.self (sz := s.heap.size)
  generalize hAe : va_A [(h0, .inr (9, fs0)), (h1, .inr (1, [.int n9, c1, c2, c3, c4, c5, c6, c7])), (h2, .inr (8, [v0, v1, v2, v3, v4, .int n]))] s.heap.size = A at hD ⊢
  have hA : ∀ q : Nat, s.heap.size ≤ q → A q := fun q h => by rw [← hAe]; exact Or.inr h
  have hS : va_S A s.heap s.heap [] := va_S.rf
  have hP : va_P D vwCl [(h0, .inr (9, fs0)), (h1, .inr (1, [.int n9, c1, c2, c3, c4, c5, c6, c7])), (h2, .inr (8, [v0, v1, v2, v3, v4, .int n]))] s.heap := hP
  have hl := lv_entry ([.ref h0]) (n := 1) (Nat.le_of_ble_eq_true rfl)
  rw [lg_entry_eq]
  generalize (lg_sl ([.ref h0]) ++ List.replicate (1 - (lg_sl ([.ref h0])).length) Slot.unset).toArray = ls at hl ⊢
  have hl : lv_has ls 1 [(0, .ref h0)] := hl
  clear hD0
  refine lv_aload_n hx hb dX12_drop_0 rfl (lv_at hl 0 rfl) ?_
  refine va_get (D := D) (ci := 9) (v := .ref h1) (C := RX12) (T := TX12) (N := 11) hx hb hts in_X12_drop_X12 hown hE.1 hP 0 rfl rfl 4 (by decide +kernel) (hts (.fieldLink RX12 32 "ClauseBook" "clauses" "LClauseBook$Clauses;") (List.mem_of_getElem? (i := 1) rfl)) (fun _ h9 => h9) e0_4 dX12_drop_1 ?_
  refine va_get (D := D) (ci := 1) (v := .int n9) (C := RX2) (T := TX2) (N := 8) hx hb hts in_X12_drop_X2 hown hE.1 hP 1 rfl rfl 0 (by decide +kernel) (hts (.fieldLink RX12 138 "ClauseBook$Clauses" "size" "I") (List.mem_of_getElem? (i := 2) rfl)) (fun _ h9 => h9) rfl dX12_drop_4 ?_
  refine lv_if_gt (tgt := 13) hx hb dX12_drop_7 (by decide +kernel) (fun c_1 => ?_) (fun c_1 => ?_)
  · rw [fa_lt] at c_1
    try rw [ti_0] at c_1
    refine lv_aload_n hx hb dX12_drop_13 rfl (lv_at hl 0 rfl) ?_
    refine va_get (D := D) (ci := 9) (v := .ref h1) (C := RX12) (T := TX12) (N := 11) hx hb hts in_X12_drop_X12 hown hE.1 hP 0 rfl rfl 4 (by decide +kernel) (hts (.fieldLink RX12 32 "ClauseBook" "clauses" "LClauseBook$Clauses;") (List.mem_of_getElem? (i := 1) rfl)) (fun _ h9 => h9) e0_4 dX12_drop_14 ?_
    refine lv_dup hx hb dX12_drop_17 rfl ?_
    refine va_get (D := D) (ci := 1) (v := .int n9) (C := RX2) (T := TX2) (N := 8) hx hb hts in_X12_drop_X2 hown hE.1 hP 1 rfl rfl 0 (by decide +kernel) (hts (.fieldLink RX12 138 "ClauseBook$Clauses" "size" "I") (List.mem_of_getElem? (i := 2) rfl)) (fun _ h9 => h9) rfl dX12_drop_18 ?_
    refine lv_iconst (v := 1) hx hb dX12_drop_21 (by decide +kernel) ?_
    refine lv_isub hx hb dX12_drop_22 ?_
    refine lv_topi (fun z_2 ez_2 => ?_)
    refine va_put (D := D) (ci := 1) (v := .int z_2) (ty := .int) (C := RX2) (T := TX2) (N := 8) hx hb hts in_X12_drop_X2 tyX2 tyX2_ok nmX2 hown hE.1 hP hD hS 1 rfl rfl 0 (by decide +kernel) (hts (.fieldLink RX12 138 "ClauseBook$Clauses" "size" "I") (List.mem_of_getElem? (i := 2) rfl)) (fun _ h9 => h9) rfl (by decide +kernel) rfl rfl (Nat.le_of_ble_eq_true rfl) dX12_drop_23 (fun H locs hP hD hS => ?_)
    obtain ⟨hP, hD⟩ := wPD [(h0, .inr (9, fs0)), (h1, .inr (1, [.int z_2, c1, c2, c3, c4, c5, c6, c7])), (h2, .inr (8, [v0, v1, v2, v3, v4, .int n]))] hP hD rfl
    refine lv_aload_n hx hb dX12_drop_26 rfl (lv_at hl 0 rfl) ?_
    refine va_get (D := D) (ci := 9) (v := .ref h2) (C := RX12) (T := TX12) (N := 11) hx hb hts in_X12_drop_X12 hown hE.1 hP 0 rfl rfl 6 (by decide +kernel) (hts (.fieldLink RX12 43 "ClauseBook" "worth" "LClauseBook$Worth;") (List.mem_of_getElem? (i := 3) rfl)) (fun _ h9 => h9) e0_6 dX12_drop_27 ?_
    have hFc := va_free (wc := [(h2, .inr (8, [v0, v1, v2, v3, v4, .int n]))]) hD hS hA [2] rfl
    refine va_callv (va_runV (As := []) (rest := []) ⟨hx, hb, hml, hown, hts⟩ (c_X11_forget l D T _ h2 (v0) (v1) (v2) (v3) (v4) n) (cwV 0 hts gX12_drop_X11_forget rfl rfl rfl hv_X11_forget ⟨Nat.le_of_ble_eq_true rfl, Nat.le_of_ble_eq_true rfl⟩) (pW_V (q := (RX11, TX11, 6)) (ci := 8) (q0 := 2) hP hE hD rfl rfl [2] (by decide +kernel) rfl rfl) rfl rfl hl.1 rfl (lv_room (Nat.le_of_ble_eq_true rfl)) dX12_drop_30 ⟨Nat.le_of_ble_eq_true rfl, Nat.le_of_ble_eq_true rfl⟩) hS (fun q _ h => hFc q h) hFc (fun u_4 t H1 locs ht hvm hr_3 hB hz1 hk1 hS => ?_)
    have hag9 : u_4 = n + 1 := hr_3
    obtain ⟨hP1, hD1⟩ := hB
    rw [ht] at hP1
    obtain ⟨hP, hD⟩ := va_repl [(h0, .inr (9, fs0)), (h1, .inr (1, [.int z_2, c1, c2, c3, c4, c5, c6, c7])), (h2, .inr (8, [v0, v1, v2, v3, v4, .int u_4]))] hP hD [2] [2] rfl (by decide +kernel) rfl rfl rfl hk1 hP1
    clear hP1 hD1 hFc
    generalize H1 = H at hP hS ⊢
    refine lv_aload_n hx hb dX12_drop_33 rfl (lv_at hl 0 rfl) ?_
    refine va_get (D := D) (ci := 9) (v := .ref h1) (C := RX12) (T := TX12) (N := 11) hx hb hts in_X12_drop_X12 hown hE.1 hP 0 rfl rfl 4 (by decide +kernel) (hts (.fieldLink RX12 32 "ClauseBook" "clauses" "LClauseBook$Clauses;") (List.mem_of_getElem? (i := 1) rfl)) (fun _ h9 => h9) e0_4 dX12_drop_34 ?_
    refine va_get (D := D) (ci := 1) (v := .int z_2) (C := RX2) (T := TX2) (N := 8) hx hb hts in_X12_drop_X2 hown hE.1 hP 1 rfl rfl 0 (by decide +kernel) (hts (.fieldLink RX12 138 "ClauseBook$Clauses" "size" "I") (List.mem_of_getElem? (i := 2) rfl)) (fun _ h9 => h9) rfl dX12_drop_37 ?_
    exact W.iret hx hb hr (fun t ht hW => ⟨⟨_, (fun k => [z_2, u_4].getD k 0), rfl, ⟨(show 0 ≤ (z_2).toInt ∧ (z_2).toInt ≤ 24 from by (try subst_vars); first | omega | (rw [dec1 (by omega)]; omega)), (Or.inr ⟨(by omega), rfl, (show (z_2).toInt = n9.toInt - 1 from by rw [ez_2]; exact dec1 (by omega))⟩), (Or.inr hag9)⟩, by rw [ht]; exact hP.sub [0, 1, 2] rfl, hD.sub [0, 1, 2] (by decide +kernel) rfl⟩, hS.F ht⟩) hS.2.2 dX12_drop_40
  · rw [fa_lt] at c_1
    try rw [ti_0] at c_1
    refine lv_bipush (v := (-3)) hx hb dX12_drop_10 (by decide +kernel) ?_
    exact W.iret hx hb hr (fun t ht hW => ⟨⟨_, (fun k => [n9, n].getD k 0), rfl, ⟨(show 0 ≤ (n9).toInt ∧ (n9).toInt ≤ 24 from by (try subst_vars); first | omega | (rw [dec1 (by omega)]; omega)), (Or.inl ⟨(by omega), (by decide +kernel), rfl⟩), (Or.inl ⟨rfl, rfl⟩)⟩, by rw [ht]; exact hP.sub [0, 1, 2] rfl, hD.sub [0, 1, 2] (by decide +kernel) rfl⟩, hS.F ht⟩) hS.2.2 dX12_drop_12
