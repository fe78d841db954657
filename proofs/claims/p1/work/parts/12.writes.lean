theorem dX11_forget_0 : decode cX11_forget 0 = .ok (.aload_n 0, 1) := by decide +kernel
theorem dX11_forget_1 : decode cX11_forget 1 = .ok (.dup, 1) := by decide +kernel
theorem dX11_forget_10 : decode cX11_forget 10 = .ok (.return_, 1) := by decide +kernel
theorem dX11_forget_2 : decode cX11_forget 2 = .ok (.getfield 22, 3) := by decide +kernel
theorem dX11_forget_5 : decode cX11_forget 5 = .ok (.iconst 1, 1) := by decide +kernel
theorem dX11_forget_6 : decode cX11_forget 6 = .ok (.iadd, 1) := by decide +kernel
theorem dX11_forget_7 : decode cX11_forget 7 = .ok (.putfield 22, 3) := by decide +kernel
set_option maxRecDepth 20000 in
theorem in_X11_forget_X11 : ∀ w ∈ wsX110, w ∈ wsX11_forget := by decide +kernel
set_option maxHeartbeats 4000000 in
set_option maxRecDepth 100000 in
theorem c_X11_forget (l : Launch) (D : va_G) (T : Nat → ClassId) (sz : Nat) (h0 : Nat) (v0 : Value) (v1 : Value) (v2 : Value) (v3 : Value) (v4 : Value) (n : Int32)  : Met l yX11_forget wsX11_forget ({ frames := 0, cells := 0, slots := 0, locals := 0 }) (pW [.ref h0] D T [(h0, .inr (8, [v0, v1, v2, v3, v4, .int n]))] sz) (va_Qv (fun (u : Int32) => True) (bW D (va_A [(h0, .inr (8, [v0, v1, v2, v3, v4, .int n]))] sz) (fun (u : Int32) => [(h0, .inr (8, [v0, v1, v2, v3, v4, .int u]))])) (va_A [(h0, .inr (8, [v0, v1, v2, v3, v4, .int n]))] sz)) 0 0 (va_A [(h0, .inr (8, [v0, v1, v2, v3, v4, .int n]))] sz) := by
  refine Met.ofW (cc := cX11_forget) (maxL := 1) (ret := none) (by decide) rfl ?_
  intro p e s m args below meth c s₁ B hml hv
  obtain ⟨rfl, hsz, hP, hE, hD0⟩ := hv
  have hx := B.exec
  have hb := B.bytes
  have hr := B.returns
  have hts := atoms_spec (ws := wsX11_forget) B.pre
  have hown : s.vm.findClass RX11 = some m.cls := findClass_of_methodNamed B.named
  have hlocks := B.notSynchronized
  subst hsz
  have hD := hD0.self (sz := s.heap.size)
  generalize hAe : va_A [(h0, .inr (8, [v0, v1, v2, v3, v4, .int n]))] s.heap.size = A at hD ⊢
  have hA : ∀ q : Nat, s.heap.size ≤ q → A q := fun q h => by rw [← hAe]; exact Or.inr h
  have hS : va_S A s.heap s.heap [] := va_S.rf
  have hP : va_P D vwCl [(h0, .inr (8, [v0, v1, v2, v3, v4, .int n]))] s.heap := hP
  have hl := lv_entry ([.ref h0]) (n := 1) (Nat.le_of_ble_eq_true rfl)
  rw [lg_entry_eq]
  generalize (lg_sl ([.ref h0]) ++ List.replicate (1 - (lg_sl ([.ref h0])).length) Slot.unset).toArray = ls at hl ⊢
  have hl : lv_has ls 1 [(0, .ref h0)] := hl
  clear hD0
  refine lv_aload_n hx hb dX11_forget_0 rfl (lv_at hl 0 rfl) ?_
  refine lv_dup hx hb dX11_forget_1 rfl ?_
  refine va_get (D := D) (ci := 8) (v := .int n) (C := RX11) (T := TX11) (N := 6) hx hb hts in_X11_forget_X11 hown hE.1 hP 0 rfl rfl 5 (by decide) (hts (.fieldLink RX11 22 "ClauseBook$Worth" "age" "I") (List.mem_of_getElem? (i := 1) rfl)) (fun _ h9 => h9) rfl dX11_forget_2 ?_
  refine lv_iconst (v := 1) hx hb dX11_forget_5 (by decide) ?_
  refine lv_iadd hx hb dX11_forget_6 ?_
  refine lv_topi (fun z_1 ez_1 => ?_)
  refine va_put (D := D) (ci := 8) (v := .int z_1) (ty := .int) (C := RX11) (T := TX11) (N := 6) hx hb hts in_X11_forget_X11 tyX11 tyX11_ok nmX11 hown hE.1 hP hD hS 0 rfl rfl 5 (by decide) (hts (.fieldLink RX11 22 "ClauseBook$Worth" "age" "I") (List.mem_of_getElem? (i := 1) rfl)) (fun _ h9 => h9) rfl (by decide +kernel) rfl rfl (Nat.le_of_ble_eq_true rfl) dX11_forget_7 (fun H locs hP hD hS => ?_)
  have hP : va_P D vwCl [(h0, .inr (8, [v0, v1, v2, v3, v4, .int z_1]))] H := hP
  have hD : va_D A [(h0, .inr (8, [v0, v1, v2, v3, v4, .int z_1]))] := hD
  exact W.vret hx hb hr (fun t ht hW => ⟨⟨z_1, rfl, trivial, by rw [ht]; exact hP.sub [0] rfl, hD.sub [0] (by decide) rfl⟩, hS.F ht⟩) hS.2.2 dX11_forget_10
theorem dX12_start_0 : decode cX12_start 0 = .ok (.iload_n 1, 1) := by decide +kernel
theorem dX12_start_1 : decode cX12_start 1 = .ok (.bipush (-99), 2) := by decide +kernel
theorem dX12_start_11 : decode cX12_start 11 = .ok (.iload_n 2, 1) := by decide +kernel
theorem dX12_start_12 : decode cX12_start 12 = .ok (.iconst 0, 1) := by decide +kernel
theorem dX12_start_13 : decode cX12_start 13 = .ok (.bipush 9, 2) := by decide +kernel
theorem dX12_start_15 : decode cX12_start 15 = .ok (.invokestatic 77, 3) := by decide +kernel
theorem dX12_start_18 : decode cX12_start 18 = .ok (.ifCond .eq 13, 3) := by decide +kernel
theorem dX12_start_21 : decode cX12_start 21 = .ok (.iload_n 3, 1) := by decide +kernel
theorem dX12_start_22 : decode cX12_start 22 = .ok (.iconst 0, 1) := by decide +kernel
theorem dX12_start_23 : decode cX12_start 23 = .ok (.bipush 9, 2) := by decide +kernel
theorem dX12_start_25 : decode cX12_start 25 = .ok (.invokestatic 77, 3) := by decide +kernel
theorem dX12_start_28 : decode cX12_start 28 = .ok (.ifCond .ne 6, 3) := by decide +kernel
theorem dX12_start_3 : decode cX12_start 3 = .ok (.bipush 99, 2) := by decide +kernel
theorem dX12_start_31 : decode cX12_start 31 = .ok (.bipush (-2), 2) := by decide +kernel
theorem dX12_start_33 : decode cX12_start 33 = .ok (.ireturn, 1) := by decide +kernel
theorem dX12_start_34 : decode cX12_start 34 = .ok (.aload_n 0, 1) := by decide +kernel
theorem dX12_start_35 : decode cX12_start 35 = .ok (.getfield 27, 3) := by decide +kernel
theorem dX12_start_38 : decode cX12_start 38 = .ok (.iload_n 1, 1) := by decide +kernel
theorem dX12_start_39 : decode cX12_start 39 = .ok (.putfield 81, 3) := by decide +kernel
theorem dX12_start_42 : decode cX12_start 42 = .ok (.aload_n 0, 1) := by decide +kernel
theorem dX12_start_43 : decode cX12_start 43 = .ok (.getfield 27, 3) := by decide +kernel
theorem dX12_start_46 : decode cX12_start 46 = .ok (.iload_n 2, 1) := by decide +kernel
theorem dX12_start_47 : decode cX12_start 47 = .ok (.putfield 87, 3) := by decide +kernel
theorem dX12_start_5 : decode cX12_start 5 = .ok (.invokestatic 77, 3) := by decide +kernel
theorem dX12_start_50 : decode cX12_start 50 = .ok (.aload_n 0, 1) := by decide +kernel
theorem dX12_start_51 : decode cX12_start 51 = .ok (.getfield 27, 3) := by decide +kernel
theorem dX12_start_54 : decode cX12_start 54 = .ok (.iload_n 3, 1) := by decide +kernel
theorem dX12_start_55 : decode cX12_start 55 = .ok (.putfield 90, 3) := by decide +kernel
theorem dX12_start_58 : decode cX12_start 58 = .ok (.aload_n 0, 1) := by decide +kernel
theorem dX12_start_59 : decode cX12_start 59 = .ok (.getfield 43, 3) := by decide +kernel
theorem dX12_start_62 : decode cX12_start 62 = .ok (.invokevirtual 93, 3) := by decide +kernel
theorem dX12_start_65 : decode cX12_start 65 = .ok (.iconst 1, 1) := by decide +kernel
theorem dX12_start_66 : decode cX12_start 66 = .ok (.ireturn, 1) := by decide +kernel
theorem dX12_start_8 : decode cX12_start 8 = .ok (.ifCond .eq 23, 3) := by decide +kernel
set_option maxRecDepth 20000 in
theorem ggX12_start_X11_forget : GoodIn wsX12_start wsX11_forget := goodIn_r _ [14, 15, 34, 35, 36, 37, 38, 39] (by decide +kernel) (by decide +kernel)
set_option maxRecDepth 20000 in
theorem ggX12_start_X12_within : GoodIn wsX12_start wsX12_within := goodIn_r _ [9] (by decide +kernel) (by decide +kernel)
set_option maxRecDepth 20000 in
theorem gX12_start_X11_forget : GoodIn wsX12_start (wsV RX12 93 RX11 yX11_forget wsX11_forget) := goodIn_app (goodIn_of _ (by decide +kernel)) ggX12_start_X11_forget
set_option maxRecDepth 20000 in
theorem gX12_start_X12_within : GoodIn wsX12_start (va_wsS RX12 77 yX12_within wsX12_within) := goodIn_app (goodIn_of _ (by decide +kernel)) ggX12_start_X12_within
set_option maxRecDepth 20000 in
theorem in_X12_start_X12 : ∀ w ∈ wsX120, w ∈ wsX12_start := by decide +kernel
set_option maxRecDepth 20000 in
theorem in_X12_start_X8 : ∀ w ∈ wsX80, w ∈ wsX12_start := by decide +kernel
set_option maxHeartbeats 4000000 in
set_option maxRecDepth 100000 in
theorem f_X12_start (l : Launch) (D : va_G) (T : Nat → ClassId) (sz : Nat) (h0 : Nat) (h1 : Nat) (h2 : Nat) (fs0 : List Value) (m0 : Int32) (m1 : Int32) (m2 : Int32) (m3 : Int32) (m4 : Int32) (m5 : Int32) (m6 : Int32) (v0 : Value) (v1 : Value) (v2 : Value) (v3 : Value) (v4 : Value) (n : Int32) (x1 : Int32) (x2 : Int32) (x3 : Int32) (e0_3 : fs0[3]? = some (.ref h1)) (e0_6 : fs0[6]? = some (.ref h2)) : Met l yX12_start wsX12_start ({ frames := 1, cells := 0, slots := 0, locals := 22 }) (pW [.ref h0, .int x1, .int x2, .int x3] D T [(h0, .inr (9, fs0)), (h1, .inr (5, [.int m0, .int m1, .int m2, .int m3, .int m4, .int m5, .int m6])), (h2, .inr (8, [v0, v1, v2, v3, v4, .int n]))] sz) (va_Qi (fun (r : Int32) (u : Unit) => r = sp_start x1 x2 x3) (bW D (va_A [(h0, .inr (9, fs0)), (h1, .inr (5, [.int m0, .int m1, .int m2, .int m3, .int m4, .int m5, .int m6])), (h2, .inr (8, [v0, v1, v2, v3, v4, .int n]))] sz) (fun (u : Unit) => ([] : va_W))) (va_A [(h0, .inr (9, fs0)), (h1, .inr (5, [.int m0, .int m1, .int m2, .int m3, .int m4, .int m5, .int m6])), (h2, .inr (8, [v0, v1, v2, v3, v4, .int n]))] sz)) 0 0 (va_A [(h0, .inr (9, fs0)), (h1, .inr (5, [.int m0, .int m1, .int m2, .int m3, .int m4, .int m5, .int m6])), (h2, .inr (8, [v0, v1, v2, v3, v4, .int n]))] sz) := by
  refine Met.ofW (cc := cX12_start) (maxL := 4) (ret := (some .int)) (by decide) rfl ?_
  intro p e s m args below meth c s₁ B hml hv
  obtain ⟨rfl, hsz, hP, hE, hD0⟩ := hv
  have hx := B.exec
  have hb := B.bytes
  have hr := B.returns
  have hts := atoms_spec (ws := wsX12_start) B.pre
  have hown : s.vm.findClass RX12 = some m.cls := findClass_of_methodNamed B.named
  have hlocks := B.notSynchronized
  subst hsz
  have hD := hD0.self (sz := s.heap.size)
  generalize hAe : va_A [(h0, .inr (9, fs0)), (h1, .inr (5, [.int m0, .int m1, .int m2, .int m3, .int m4, .int m5, .int m6])), (h2, .inr (8, [v0, v1, v2, v3, v4, .int n]))] s.heap.size = A at hD ⊢
  have hA : ∀ q : Nat, s.heap.size ≤ q → A q := fun q h => by rw [← hAe]; exact Or.inr h
  have hS : va_S A s.heap s.heap [] := va_S.rf
  have hP : va_P D vwCl [(h0, .inr (9, fs0)), (h1, .inr (5, [.int m0, .int m1, .int m2, .int m3, .int m4, .int m5, .int m6])), (h2, .inr (8, [v0, v1, v2, v3, v4, .int n]))] s.heap := hP
  have hl := lv_entry ([.ref h0, .int x1, .int x2, .int x3]) (n := 4) (Nat.le_of_ble_eq_true rfl)
  rw [lg_entry_eq]
  generalize (lg_sl ([.ref h0, .int x1, .int x2, .int x3]) ++ List.replicate (4 - (lg_sl ([.ref h0, .int x1, .int x2, .int x3])).length) Slot.unset).toArray = ls at hl ⊢
  have hl : lv_has ls 4 [(0, .ref h0), (1, .int x1), (2, .int x2), (3, .int x3)] := hl
  clear hD0
  refine lv_iload_n hx hb dX12_start_0 rfl (lv_at hl 1 rfl) ?_
  refine lv_bipush (v := (-99)) hx hb dX12_start_1 (by decide) ?_
  refine lv_bipush (v := 99) hx hb dX12_start_3 (by decide) ?_
  refine vp_callSi (W.runS (As := [.int x1, .int (-99), .int 99]) (rest := []) ⟨hx, hb, hml, hown, hts⟩ (c_X12_within l D T x1 (-99) 99 (-99) 99 (by decide) (by decide)) (va_cwS 3 hts gX12_start_X12_within rfl rfl rfl (by decide +kernel) ⟨Nat.le_of_ble_eq_true rfl, Nat.le_of_ble_eq_true rfl⟩) (pR_S hP hE [] rfl) rfl rfl hl.1 rfl (lv_room (Nat.le_of_ble_eq_true rfl)) dX12_start_5 ⟨Nat.le_of_ble_eq_true rfl, Nat.le_of_ble_eq_true rfl⟩) (fun r_1 hr_1 => ?_)
  rcases bool_post hr_1 with ⟨c_2, rfl⟩ | ⟨c_2, rfl⟩
  · refine lv_if_eq (tgt := 31) hx hb dX12_start_8 (by decide) (fun c9 => absurd c9 (by decide)) (fun _ => ?_)
    refine lv_iload_n hx hb dX12_start_11 rfl (lv_at hl 2 rfl) ?_
    refine lv_iconst (v := 0) hx hb dX12_start_12 (by decide) ?_
    refine lv_bipush (v := 9) hx hb dX12_start_13 (by decide) ?_
    refine vp_callSi (W.runS (As := [.int x2, .int 0, .int 9]) (rest := []) ⟨hx, hb, hml, hown, hts⟩ (c_X12_within l D T x2 0 9 0 9 (by decide) (by decide)) (va_cwS 3 hts gX12_start_X12_within rfl rfl rfl (by decide +kernel) ⟨Nat.le_of_ble_eq_true rfl, Nat.le_of_ble_eq_true rfl⟩) (pR_S hP hE [] rfl) rfl rfl hl.1 rfl (lv_room (Nat.le_of_ble_eq_true rfl)) dX12_start_15 ⟨Nat.le_of_ble_eq_true rfl, Nat.le_of_ble_eq_true rfl⟩) (fun r_3 hr_3 => ?_)
    rcases bool_post hr_3 with ⟨c_4, rfl⟩ | ⟨c_4, rfl⟩
    · refine lv_if_eq (tgt := 31) hx hb dX12_start_18 (by decide) (fun c9 => absurd c9 (by decide)) (fun _ => ?_)
      refine lv_iload_n hx hb dX12_start_21 rfl (lv_at hl 3 rfl) ?_
      refine lv_iconst (v := 0) hx hb dX12_start_22 (by decide) ?_
      refine lv_bipush (v := 9) hx hb dX12_start_23 (by decide) ?_
      refine vp_callSi (W.runS (As := [.int x3, .int 0, .int 9]) (rest := []) ⟨hx, hb, hml, hown, hts⟩ (c_X12_within l D T x3 0 9 0 9 (by decide) (by decide)) (va_cwS 3 hts gX12_start_X12_within rfl rfl rfl (by decide +kernel) ⟨Nat.le_of_ble_eq_true rfl, Nat.le_of_ble_eq_true rfl⟩) (pR_S hP hE [] rfl) rfl rfl hl.1 rfl (lv_room (Nat.le_of_ble_eq_true rfl)) dX12_start_25 ⟨Nat.le_of_ble_eq_true rfl, Nat.le_of_ble_eq_true rfl⟩) (fun r_5 hr_5 => ?_)
      rcases bool_post hr_5 with ⟨c_6, rfl⟩ | ⟨c_6, rfl⟩
      · refine lv_if_ne (tgt := 34) hx hb dX12_start_28 (by decide) (fun _ => ?_) (fun c9 => absurd c9 (by decide))
        refine lv_aload_n hx hb dX12_start_34 rfl (lv_at hl 0 rfl) ?_
        refine va_get (D := D) (ci := 9) (v := .ref h1) (C := RX12) (T := TX12) (N := 11) hx hb hts in_X12_start_X12 hown hE.1 hP 0 rfl rfl 3 (by decide) (hts (.fieldLink RX12 27 "ClauseBook" "lattice" "LClauseBook$Lattice;") (List.mem_of_getElem? (i := 1) rfl)) (fun _ h9 => h9) e0_3 dX12_start_35 ?_
        refine lv_iload_n hx hb dX12_start_38 rfl (lv_at hl 1 rfl) ?_
        refine va_put (D := D) (ci := 5) (v := .int x1) (ty := .int) (C := RX8) (T := TX8) (N := 7) hx hb hts in_X12_start_X8 tyX8 tyX8_ok nmX8 hown hE.1 hP hD hS 1 rfl rfl 0 (by decide) (hts (.fieldLink RX12 81 "ClauseBook$Lattice" "start" "I") (List.mem_of_getElem? (i := 2) rfl)) (fun _ h9 => h9) rfl (by decide +kernel) rfl rfl (Nat.le_of_ble_eq_true rfl) dX12_start_39 (fun H locs hP hD hS => ?_)
        have hP : va_P D vwCl [(h0, .inr (9, fs0)), (h1, .inr (5, [.int x1, .int m1, .int m2, .int m3, .int m4, .int m5, .int m6])), (h2, .inr (8, [v0, v1, v2, v3, v4, .int n]))] H := hP
        have hD : va_D A [(h0, .inr (9, fs0)), (h1, .inr (5, [.int x1, .int m1, .int m2, .int m3, .int m4, .int m5, .int m6])), (h2, .inr (8, [v0, v1, v2, v3, v4, .int n]))] := hD
        refine lv_aload_n hx hb dX12_start_42 rfl (lv_at hl 0 rfl) ?_
        refine va_get (D := D) (ci := 9) (v := .ref h1) (C := RX12) (T := TX12) (N := 11) hx hb hts in_X12_start_X12 hown hE.1 hP 0 rfl rfl 3 (by decide) (hts (.fieldLink RX12 27 "ClauseBook" "lattice" "LClauseBook$Lattice;") (List.mem_of_getElem? (i := 1) rfl)) (fun _ h9 => h9) e0_3 dX12_start_43 ?_
        refine lv_iload_n hx hb dX12_start_46 rfl (lv_at hl 2 rfl) ?_
        refine va_put (D := D) (ci := 5) (v := .int x2) (ty := .int) (C := RX8) (T := TX8) (N := 7) hx hb hts in_X12_start_X8 tyX8 tyX8_ok nmX8 hown hE.1 hP hD hS 1 rfl rfl 1 (by decide) (hts (.fieldLink RX12 87 "ClauseBook$Lattice" "up" "I") (List.mem_of_getElem? (i := 3) rfl)) (fun _ h9 => h9) rfl (by decide +kernel) rfl rfl (Nat.le_of_ble_eq_true rfl) dX12_start_47 (fun H locs hP hD hS => ?_)
        have hP : va_P D vwCl [(h0, .inr (9, fs0)), (h1, .inr (5, [.int x1, .int x2, .int m2, .int m3, .int m4, .int m5, .int m6])), (h2, .inr (8, [v0, v1, v2, v3, v4, .int n]))] H := hP
        have hD : va_D A [(h0, .inr (9, fs0)), (h1, .inr (5, [.int x1, .int x2, .int m2, .int m3, .int m4, .int m5, .int m6])), (h2, .inr (8, [v0, v1, v2, v3, v4, .int n]))] := hD
        refine lv_aload_n hx hb dX12_start_50 rfl (lv_at hl 0 rfl) ?_
        refine va_get (D := D) (ci := 9) (v := .ref h1) (C := RX12) (T := TX12) (N := 11) hx hb hts in_X12_start_X12 hown hE.1 hP 0 rfl rfl 3 (by decide) (hts (.fieldLink RX12 27 "ClauseBook" "lattice" "LClauseBook$Lattice;") (List.mem_of_getElem? (i := 1) rfl)) (fun _ h9 => h9) e0_3 dX12_start_51 ?_
        refine lv_iload_n hx hb dX12_start_54 rfl (lv_at hl 3 rfl) ?_
        refine va_put (D := D) (ci := 5) (v := .int x3) (ty := .int) (C := RX8) (T := TX8) (N := 7) hx hb hts in_X12_start_X8 tyX8 tyX8_ok nmX8 hown hE.1 hP hD hS 1 rfl rfl 2 (by decide) (hts (.fieldLink RX12 90 "ClauseBook$Lattice" "down" "I") (List.mem_of_getElem? (i := 4) rfl)) (fun _ h9 => h9) rfl (by decide +kernel) rfl rfl (Nat.le_of_ble_eq_true rfl) dX12_start_55 (fun H locs hP hD hS => ?_)
        have hP : va_P D vwCl [(h0, .inr (9, fs0)), (h1, .inr (5, [.int x1, .int x2, .int x3, .int m3, .int m4, .int m5, .int m6])), (h2, .inr (8, [v0, v1, v2, v3, v4, .int n]))] H := hP
        have hD : va_D A [(h0, .inr (9, fs0)), (h1, .inr (5, [.int x1, .int x2, .int x3, .int m3, .int m4, .int m5, .int m6])), (h2, .inr (8, [v0, v1, v2, v3, v4, .int n]))] := hD
        refine lv_aload_n hx hb dX12_start_58 rfl (lv_at hl 0 rfl) ?_
        refine va_get (D := D) (ci := 9) (v := .ref h2) (C := RX12) (T := TX12) (N := 11) hx hb hts in_X12_start_X12 hown hE.1 hP 0 rfl rfl 6 (by decide) (hts (.fieldLink RX12 43 "ClauseBook" "worth" "LClauseBook$Worth;") (List.mem_of_getElem? (i := 5) rfl)) (fun _ h9 => h9) e0_6 dX12_start_59 ?_
        have hFc := va_free (wc := [(h2, .inr (8, [v0, v1, v2, v3, v4, .int n]))]) hD hS hA [2] rfl
        refine va_callv (va_runV (As := []) (rest := []) ⟨hx, hb, hml, hown, hts⟩ (c_X11_forget l D T _ h2 (v0) (v1) (v2) (v3) (v4) n) (cwV 0 hts gX12_start_X11_forget rfl rfl rfl (by decide +kernel) ⟨Nat.le_of_ble_eq_true rfl, Nat.le_of_ble_eq_true rfl⟩) (pW_V (ci := 8) (q0 := 2) hP hE hD rfl rfl [2] (by decide) rfl rfl) rfl rfl hl.1 rfl (lv_room (Nat.le_of_ble_eq_true rfl)) dX12_start_62 ⟨Nat.le_of_ble_eq_true rfl, Nat.le_of_ble_eq_true rfl⟩) hS (fun q _ h => hFc q h) hFc (fun u_8 t H1 locs ht hvm hr_7 hB hz1 hk1 hS => ?_)
        obtain ⟨hP1, hD1⟩ := hB
        rw [ht] at hP1
        obtain ⟨hP, hD⟩ := va_join (wr := [(h0, .inr (9, fs0)), (h1, .inr (5, [.int x1, .int x2, .int x3, .int m3, .int m4, .int m5, .int m6]))]) (w1 := [(h2, .inr (8, [v0, v1, v2, v3, v4, .int u_8]))]) hP hD [2] [0, 1] rfl rfl (by decide) (by decide) hk1 hFc hP1 hD1
        clear hP1 hD1 hFc
        generalize H1 = H at hP hS ⊢
        have hP : va_P D vwCl [(h0, .inr (9, fs0)), (h1, .inr (5, [.int x1, .int x2, .int x3, .int m3, .int m4, .int m5, .int m6])), (h2, .inr (8, [v0, v1, v2, v3, v4, .int u_8]))] H := hP
        have hD : va_D A [(h0, .inr (9, fs0)), (h1, .inr (5, [.int x1, .int x2, .int x3, .int m3, .int m4, .int m5, .int m6])), (h2, .inr (8, [v0, v1, v2, v3, v4, .int u_8]))] := hD
        refine lv_iconst (v := 1) hx hb dX12_start_65 (by decide) ?_
        exact W.iret hx hb hr (fun t ht hW => ⟨⟨_, (), rfl, (by first | decide | (unfold sp_start; (repeat' split) <;> first | rfl | (exfalso; omega))), by rw [ht]; exact hP.sub [] rfl, hD.sub [] (by decide) rfl⟩, hS.F ht⟩) hS.2.2 dX12_start_66
      · refine lv_if_ne (tgt := 34) hx hb dX12_start_28 (by decide) (fun c9 => absurd c9 (by decide)) (fun _ => ?_)
        refine lv_bipush (v := (-2)) hx hb dX12_start_31 (by decide) ?_
        exact W.iret hx hb hr (fun t ht hW => ⟨⟨_, (), rfl, (by first | decide | (unfold sp_start; (repeat' split) <;> first | rfl | (exfalso; omega))), by rw [ht]; exact hP.sub [] rfl, hD.sub [] (by decide) rfl⟩, hS.F ht⟩) hS.2.2 dX12_start_33
    · refine lv_if_eq (tgt := 31) hx hb dX12_start_18 (by decide) (fun _ => ?_) (fun c9 => absurd c9 (by decide))
      refine lv_bipush (v := (-2)) hx hb dX12_start_31 (by decide) ?_
      exact W.iret hx hb hr (fun t ht hW => ⟨⟨_, (), rfl, (by first | decide | (unfold sp_start; (repeat' split) <;> first | rfl | (exfalso; omega))), by rw [ht]; exact hP.sub [] rfl, hD.sub [] (by decide) rfl⟩, hS.F ht⟩) hS.2.2 dX12_start_33
  · refine lv_if_eq (tgt := 31) hx hb dX12_start_8 (by decide) (fun _ => ?_) (fun c9 => absurd c9 (by decide))
    refine lv_bipush (v := (-2)) hx hb dX12_start_31 (by decide) ?_
    exact W.iret hx hb hr (fun t ht hW => ⟨⟨_, (), rfl, (by first | decide | (unfold sp_start; (repeat' split) <;> first | rfl | (exfalso; omega))), by rw [ht]; exact hP.sub [] rfl, hD.sub [] (by decide) rfl⟩, hS.F ht⟩) hS.2.2 dX12_start_33
theorem dX12_odds_0 : decode cX12_odds 0 = .ok (.iload_n 2, 1) := by decide +kernel
theorem dX12_odds_1 : decode cX12_odds 1 = .ok (.iconst 2, 1) := by decide +kernel
theorem dX12_odds_10 : decode cX12_odds 10 = .ok (.iload_n 1, 1) := by decide +kernel
theorem dX12_odds_11 : decode cX12_odds 11 = .ok (.iconst 0, 1) := by decide +kernel
theorem dX12_odds_12 : decode cX12_odds 12 = .ok (.iload_n 2, 1) := by decide +kernel
theorem dX12_odds_13 : decode cX12_odds 13 = .ok (.invokestatic 77, 3) := by decide +kernel
theorem dX12_odds_16 : decode cX12_odds 16 = .ok (.ifCond .ne 6, 3) := by decide +kernel
theorem dX12_odds_19 : decode cX12_odds 19 = .ok (.bipush (-2), 2) := by decide +kernel
theorem dX12_odds_2 : decode cX12_odds 2 = .ok (.bipush 9, 2) := by decide +kernel
theorem dX12_odds_21 : decode cX12_odds 21 = .ok (.ireturn, 1) := by decide +kernel
theorem dX12_odds_22 : decode cX12_odds 22 = .ok (.aload_n 0, 1) := by decide +kernel
theorem dX12_odds_23 : decode cX12_odds 23 = .ok (.getfield 27, 3) := by decide +kernel
theorem dX12_odds_26 : decode cX12_odds 26 = .ok (.iload_n 1, 1) := by decide +kernel
theorem dX12_odds_27 : decode cX12_odds 27 = .ok (.putfield 96, 3) := by decide +kernel
theorem dX12_odds_30 : decode cX12_odds 30 = .ok (.aload_n 0, 1) := by decide +kernel
theorem dX12_odds_31 : decode cX12_odds 31 = .ok (.getfield 27, 3) := by decide +kernel
theorem dX12_odds_34 : decode cX12_odds 34 = .ok (.iload_n 2, 1) := by decide +kernel
theorem dX12_odds_35 : decode cX12_odds 35 = .ok (.putfield 99, 3) := by decide +kernel
theorem dX12_odds_38 : decode cX12_odds 38 = .ok (.aload_n 0, 1) := by decide +kernel
theorem dX12_odds_39 : decode cX12_odds 39 = .ok (.getfield 43, 3) := by decide +kernel
theorem dX12_odds_4 : decode cX12_odds 4 = .ok (.invokestatic 77, 3) := by decide +kernel
theorem dX12_odds_42 : decode cX12_odds 42 = .ok (.invokevirtual 93, 3) := by decide +kernel
theorem dX12_odds_45 : decode cX12_odds 45 = .ok (.iconst 1, 1) := by decide +kernel
theorem dX12_odds_46 : decode cX12_odds 46 = .ok (.ireturn, 1) := by decide +kernel
theorem dX12_odds_7 : decode cX12_odds 7 = .ok (.ifCond .eq 12, 3) := by decide +kernel
set_option maxRecDepth 20000 in
theorem ggX12_odds_X11_forget : GoodIn wsX12_odds wsX11_forget := goodIn_r _ [13, 14, 33, 34, 35, 36, 37, 38] (by decide +kernel) (by decide +kernel)
set_option maxRecDepth 20000 in
theorem ggX12_odds_X12_within : GoodIn wsX12_odds wsX12_within := goodIn_r _ [8] (by decide +kernel) (by decide +kernel)
set_option maxRecDepth 20000 in
theorem gX12_odds_X11_forget : GoodIn wsX12_odds (wsV RX12 93 RX11 yX11_forget wsX11_forget) := goodIn_app (goodIn_of _ (by decide +kernel)) ggX12_odds_X11_forget
set_option maxRecDepth 20000 in
theorem gX12_odds_X12_within : GoodIn wsX12_odds (va_wsS RX12 77 yX12_within wsX12_within) := goodIn_app (goodIn_of _ (by decide +kernel)) ggX12_odds_X12_within
set_option maxRecDepth 20000 in
theorem in_X12_odds_X12 : ∀ w ∈ wsX120, w ∈ wsX12_odds := by decide +kernel
set_option maxRecDepth 20000 in
theorem in_X12_odds_X8 : ∀ w ∈ wsX80, w ∈ wsX12_odds := by decide +kernel
set_option maxHeartbeats 4000000 in
set_option maxRecDepth 100000 in
theorem f_X12_odds (l : Launch) (D : va_G) (T : Nat → ClassId) (sz : Nat) (h0 : Nat) (h1 : Nat) (h2 : Nat) (fs0 : List Value) (m0 : Int32) (m1 : Int32) (m2 : Int32) (m3 : Int32) (m4 : Int32) (m5 : Int32) (m6 : Int32) (v0 : Value) (v1 : Value) (v2 : Value) (v3 : Value) (v4 : Value) (n : Int32) (x1 : Int32) (x2 : Int32) (e0_3 : fs0[3]? = some (.ref h1)) (e0_6 : fs0[6]? = some (.ref h2)) : Met l yX12_odds wsX12_odds ({ frames := 1, cells := 0, slots := 0, locals := 22 }) (pW [.ref h0, .int x1, .int x2] D T [(h0, .inr (9, fs0)), (h1, .inr (5, [.int m0, .int m1, .int m2, .int m3, .int m4, .int m5, .int m6])), (h2, .inr (8, [v0, v1, v2, v3, v4, .int n]))] sz) (va_Qi (fun (r : Int32) (u : Unit) => r = sp_odds x1 x2) (bW D (va_A [(h0, .inr (9, fs0)), (h1, .inr (5, [.int m0, .int m1, .int m2, .int m3, .int m4, .int m5, .int m6])), (h2, .inr (8, [v0, v1, v2, v3, v4, .int n]))] sz) (fun (u : Unit) => ([] : va_W))) (va_A [(h0, .inr (9, fs0)), (h1, .inr (5, [.int m0, .int m1, .int m2, .int m3, .int m4, .int m5, .int m6])), (h2, .inr (8, [v0, v1, v2, v3, v4, .int n]))] sz)) 0 0 (va_A [(h0, .inr (9, fs0)), (h1, .inr (5, [.int m0, .int m1, .int m2, .int m3, .int m4, .int m5, .int m6])), (h2, .inr (8, [v0, v1, v2, v3, v4, .int n]))] sz) := by
  refine Met.ofW (cc := cX12_odds) (maxL := 3) (ret := (some .int)) (by decide) rfl ?_
  intro p e s m args below meth c s₁ B hml hv
  obtain ⟨rfl, hsz, hP, hE, hD0⟩ := hv
  have hx := B.exec
  have hb := B.bytes
  have hr := B.returns
  have hts := atoms_spec (ws := wsX12_odds) B.pre
  have hown : s.vm.findClass RX12 = some m.cls := findClass_of_methodNamed B.named
  have hlocks := B.notSynchronized
  subst hsz
  have hD := hD0.self (sz := s.heap.size)
  generalize hAe : va_A [(h0, .inr (9, fs0)), (h1, .inr (5, [.int m0, .int m1, .int m2, .int m3, .int m4, .int m5, .int m6])), (h2, .inr (8, [v0, v1, v2, v3, v4, .int n]))] s.heap.size = A at hD ⊢
  have hA : ∀ q : Nat, s.heap.size ≤ q → A q := fun q h => by rw [← hAe]; exact Or.inr h
  have hS : va_S A s.heap s.heap [] := va_S.rf
  have hP : va_P D vwCl [(h0, .inr (9, fs0)), (h1, .inr (5, [.int m0, .int m1, .int m2, .int m3, .int m4, .int m5, .int m6])), (h2, .inr (8, [v0, v1, v2, v3, v4, .int n]))] s.heap := hP
  have hl := lv_entry ([.ref h0, .int x1, .int x2]) (n := 3) (Nat.le_of_ble_eq_true rfl)
  rw [lg_entry_eq]
  generalize (lg_sl ([.ref h0, .int x1, .int x2]) ++ List.replicate (3 - (lg_sl ([.ref h0, .int x1, .int x2])).length) Slot.unset).toArray = ls at hl ⊢
  have hl : lv_has ls 3 [(0, .ref h0), (1, .int x1), (2, .int x2)] := hl
  clear hD0
  refine lv_iload_n hx hb dX12_odds_0 rfl (lv_at hl 2 rfl) ?_
  refine lv_iconst (v := 2) hx hb dX12_odds_1 (by decide) ?_
  refine lv_bipush (v := 9) hx hb dX12_odds_2 (by decide) ?_
  refine vp_callSi (W.runS (As := [.int x2, .int 2, .int 9]) (rest := []) ⟨hx, hb, hml, hown, hts⟩ (c_X12_within l D T x2 2 9 2 9 (by decide) (by decide)) (va_cwS 3 hts gX12_odds_X12_within rfl rfl rfl (by decide +kernel) ⟨Nat.le_of_ble_eq_true rfl, Nat.le_of_ble_eq_true rfl⟩) (pR_S hP hE [] rfl) rfl rfl hl.1 rfl (lv_room (Nat.le_of_ble_eq_true rfl)) dX12_odds_4 ⟨Nat.le_of_ble_eq_true rfl, Nat.le_of_ble_eq_true rfl⟩) (fun r_1 hr_1 => ?_)
  rcases bool_post hr_1 with ⟨c_2, rfl⟩ | ⟨c_2, rfl⟩
  · refine lv_if_eq (tgt := 19) hx hb dX12_odds_7 (by decide) (fun c9 => absurd c9 (by decide)) (fun _ => ?_)
    refine lv_iload_n hx hb dX12_odds_10 rfl (lv_at hl 1 rfl) ?_
    refine lv_iconst (v := 0) hx hb dX12_odds_11 (by decide) ?_
    refine lv_iload_n hx hb dX12_odds_12 rfl (lv_at hl 2 rfl) ?_
    refine vp_callSi (W.runS (As := [.int x1, .int 0, .int x2]) (rest := []) ⟨hx, hb, hml, hown, hts⟩ (c_X12_within l D T x1 0 x2 0 x2.toInt (by decide) rfl) (va_cwS 3 hts gX12_odds_X12_within rfl rfl rfl (by decide +kernel) ⟨Nat.le_of_ble_eq_true rfl, Nat.le_of_ble_eq_true rfl⟩) (pR_S hP hE [] rfl) rfl rfl hl.1 rfl (lv_room (Nat.le_of_ble_eq_true rfl)) dX12_odds_13 ⟨Nat.le_of_ble_eq_true rfl, Nat.le_of_ble_eq_true rfl⟩) (fun r_3 hr_3 => ?_)
    rcases bool_post hr_3 with ⟨c_4, rfl⟩ | ⟨c_4, rfl⟩
    · refine lv_if_ne (tgt := 22) hx hb dX12_odds_16 (by decide) (fun _ => ?_) (fun c9 => absurd c9 (by decide))
      refine lv_aload_n hx hb dX12_odds_22 rfl (lv_at hl 0 rfl) ?_
      refine va_get (D := D) (ci := 9) (v := .ref h1) (C := RX12) (T := TX12) (N := 11) hx hb hts in_X12_odds_X12 hown hE.1 hP 0 rfl rfl 3 (by decide) (hts (.fieldLink RX12 27 "ClauseBook" "lattice" "LClauseBook$Lattice;") (List.mem_of_getElem? (i := 1) rfl)) (fun _ h9 => h9) e0_3 dX12_odds_23 ?_
      refine lv_iload_n hx hb dX12_odds_26 rfl (lv_at hl 1 rfl) ?_
      refine va_put (D := D) (ci := 5) (v := .int x1) (ty := .int) (C := RX8) (T := TX8) (N := 7) hx hb hts in_X12_odds_X8 tyX8 tyX8_ok nmX8 hown hE.1 hP hD hS 1 rfl rfl 3 (by decide) (hts (.fieldLink RX12 96 "ClauseBook$Lattice" "p" "I") (List.mem_of_getElem? (i := 2) rfl)) (fun _ h9 => h9) rfl (by decide +kernel) rfl rfl (Nat.le_of_ble_eq_true rfl) dX12_odds_27 (fun H locs hP hD hS => ?_)
      have hP : va_P D vwCl [(h0, .inr (9, fs0)), (h1, .inr (5, [.int m0, .int m1, .int m2, .int x1, .int m4, .int m5, .int m6])), (h2, .inr (8, [v0, v1, v2, v3, v4, .int n]))] H := hP
      have hD : va_D A [(h0, .inr (9, fs0)), (h1, .inr (5, [.int m0, .int m1, .int m2, .int x1, .int m4, .int m5, .int m6])), (h2, .inr (8, [v0, v1, v2, v3, v4, .int n]))] := hD
      refine lv_aload_n hx hb dX12_odds_30 rfl (lv_at hl 0 rfl) ?_
      refine va_get (D := D) (ci := 9) (v := .ref h1) (C := RX12) (T := TX12) (N := 11) hx hb hts in_X12_odds_X12 hown hE.1 hP 0 rfl rfl 3 (by decide) (hts (.fieldLink RX12 27 "ClauseBook" "lattice" "LClauseBook$Lattice;") (List.mem_of_getElem? (i := 1) rfl)) (fun _ h9 => h9) e0_3 dX12_odds_31 ?_
      refine lv_iload_n hx hb dX12_odds_34 rfl (lv_at hl 2 rfl) ?_
      refine va_put (D := D) (ci := 5) (v := .int x2) (ty := .int) (C := RX8) (T := TX8) (N := 7) hx hb hts in_X12_odds_X8 tyX8 tyX8_ok nmX8 hown hE.1 hP hD hS 1 rfl rfl 4 (by decide) (hts (.fieldLink RX12 99 "ClauseBook$Lattice" "q" "I") (List.mem_of_getElem? (i := 3) rfl)) (fun _ h9 => h9) rfl (by decide +kernel) rfl rfl (Nat.le_of_ble_eq_true rfl) dX12_odds_35 (fun H locs hP hD hS => ?_)
      have hP : va_P D vwCl [(h0, .inr (9, fs0)), (h1, .inr (5, [.int m0, .int m1, .int m2, .int x1, .int x2, .int m5, .int m6])), (h2, .inr (8, [v0, v1, v2, v3, v4, .int n]))] H := hP
      have hD : va_D A [(h0, .inr (9, fs0)), (h1, .inr (5, [.int m0, .int m1, .int m2, .int x1, .int x2, .int m5, .int m6])), (h2, .inr (8, [v0, v1, v2, v3, v4, .int n]))] := hD
      refine lv_aload_n hx hb dX12_odds_38 rfl (lv_at hl 0 rfl) ?_
      refine va_get (D := D) (ci := 9) (v := .ref h2) (C := RX12) (T := TX12) (N := 11) hx hb hts in_X12_odds_X12 hown hE.1 hP 0 rfl rfl 6 (by decide) (hts (.fieldLink RX12 43 "ClauseBook" "worth" "LClauseBook$Worth;") (List.mem_of_getElem? (i := 4) rfl)) (fun _ h9 => h9) e0_6 dX12_odds_39 ?_
      have hFc := va_free (wc := [(h2, .inr (8, [v0, v1, v2, v3, v4, .int n]))]) hD hS hA [2] rfl
      refine va_callv (va_runV (As := []) (rest := []) ⟨hx, hb, hml, hown, hts⟩ (c_X11_forget l D T _ h2 (v0) (v1) (v2) (v3) (v4) n) (cwV 0 hts gX12_odds_X11_forget rfl rfl rfl (by decide +kernel) ⟨Nat.le_of_ble_eq_true rfl, Nat.le_of_ble_eq_true rfl⟩) (pW_V (ci := 8) (q0 := 2) hP hE hD rfl rfl [2] (by decide) rfl rfl) rfl rfl hl.1 rfl (lv_room (Nat.le_of_ble_eq_true rfl)) dX12_odds_42 ⟨Nat.le_of_ble_eq_true rfl, Nat.le_of_ble_eq_true rfl⟩) hS (fun q _ h => hFc q h) hFc (fun u_6 t H1 locs ht hvm hr_5 hB hz1 hk1 hS => ?_)
      obtain ⟨hP1, hD1⟩ := hB
      rw [ht] at hP1
      obtain ⟨hP, hD⟩ := va_join (wr := [(h0, .inr (9, fs0)), (h1, .inr (5, [.int m0, .int m1, .int m2, .int x1, .int x2, .int m5, .int m6]))]) (w1 := [(h2, .inr (8, [v0, v1, v2, v3, v4, .int u_6]))]) hP hD [2] [0, 1] rfl rfl (by decide) (by decide) hk1 hFc hP1 hD1
      clear hP1 hD1 hFc
      generalize H1 = H at hP hS ⊢
      have hP : va_P D vwCl [(h0, .inr (9, fs0)), (h1, .inr (5, [.int m0, .int m1, .int m2, .int x1, .int x2, .int m5, .int m6])), (h2, .inr (8, [v0, v1, v2, v3, v4, .int u_6]))] H := hP
      have hD : va_D A [(h0, .inr (9, fs0)), (h1, .inr (5, [.int m0, .int m1, .int m2, .int x1, .int x2, .int m5, .int m6])), (h2, .inr (8, [v0, v1, v2, v3, v4, .int u_6]))] := hD
      refine lv_iconst (v := 1) hx hb dX12_odds_45 (by decide) ?_
      exact W.iret hx hb hr (fun t ht hW => ⟨⟨_, (), rfl, (by first | decide | (unfold sp_odds; (repeat' split) <;> first | rfl | (exfalso; omega))), by rw [ht]; exact hP.sub [] rfl, hD.sub [] (by decide) rfl⟩, hS.F ht⟩) hS.2.2 dX12_odds_46
    · refine lv_if_ne (tgt := 22) hx hb dX12_odds_16 (by decide) (fun c9 => absurd c9 (by decide)) (fun _ => ?_)
      refine lv_bipush (v := (-2)) hx hb dX12_odds_19 (by decide) ?_
      exact W.iret hx hb hr (fun t ht hW => ⟨⟨_, (), rfl, (by first | decide | (unfold sp_odds; (repeat' split) <;> first | rfl | (exfalso; omega))), by rw [ht]; exact hP.sub [] rfl, hD.sub [] (by decide) rfl⟩, hS.F ht⟩) hS.2.2 dX12_odds_21
  · refine lv_if_eq (tgt := 19) hx hb dX12_odds_7 (by decide) (fun _ => ?_) (fun c9 => absurd c9 (by decide))
    refine lv_bipush (v := (-2)) hx hb dX12_odds_19 (by decide) ?_
    exact W.iret hx hb hr (fun t ht hW => ⟨⟨_, (), rfl, (by first | decide | (unfold sp_odds; (repeat' split) <;> first | rfl | (exfalso; omega))), by rw [ht]; exact hP.sub [] rfl, hD.sub [] (by decide) rfl⟩, hS.F ht⟩) hS.2.2 dX12_odds_21
theorem dX12_wait_0 : decode cX12_wait 0 = .ok (.iload_n 2, 1) := by decide +kernel
theorem dX12_wait_1 : decode cX12_wait 1 = .ok (.iconst 1, 1) := by decide +kernel
theorem dX12_wait_10 : decode cX12_wait 10 = .ok (.iload_n 1, 1) := by decide +kernel
theorem dX12_wait_11 : decode cX12_wait 11 = .ok (.iconst 1, 1) := by decide +kernel
theorem dX12_wait_12 : decode cX12_wait 12 = .ok (.iload_n 2, 1) := by decide +kernel
theorem dX12_wait_13 : decode cX12_wait 13 = .ok (.invokestatic 77, 3) := by decide +kernel
theorem dX12_wait_16 : decode cX12_wait 16 = .ok (.ifCond .ne 6, 3) := by decide +kernel
theorem dX12_wait_19 : decode cX12_wait 19 = .ok (.bipush (-2), 2) := by decide +kernel
theorem dX12_wait_2 : decode cX12_wait 2 = .ok (.bipush 9, 2) := by decide +kernel
theorem dX12_wait_21 : decode cX12_wait 21 = .ok (.ireturn, 1) := by decide +kernel
theorem dX12_wait_22 : decode cX12_wait 22 = .ok (.aload_n 0, 1) := by decide +kernel
theorem dX12_wait_23 : decode cX12_wait 23 = .ok (.getfield 27, 3) := by decide +kernel
theorem dX12_wait_26 : decode cX12_wait 26 = .ok (.iload_n 1, 1) := by decide +kernel
theorem dX12_wait_27 : decode cX12_wait 27 = .ok (.putfield 102, 3) := by decide +kernel
theorem dX12_wait_30 : decode cX12_wait 30 = .ok (.aload_n 0, 1) := by decide +kernel
theorem dX12_wait_31 : decode cX12_wait 31 = .ok (.getfield 27, 3) := by decide +kernel
theorem dX12_wait_34 : decode cX12_wait 34 = .ok (.iload_n 2, 1) := by decide +kernel
theorem dX12_wait_35 : decode cX12_wait 35 = .ok (.putfield 105, 3) := by decide +kernel
theorem dX12_wait_38 : decode cX12_wait 38 = .ok (.aload_n 0, 1) := by decide +kernel
theorem dX12_wait_39 : decode cX12_wait 39 = .ok (.getfield 43, 3) := by decide +kernel
theorem dX12_wait_4 : decode cX12_wait 4 = .ok (.invokestatic 77, 3) := by decide +kernel
theorem dX12_wait_42 : decode cX12_wait 42 = .ok (.invokevirtual 93, 3) := by decide +kernel
theorem dX12_wait_45 : decode cX12_wait 45 = .ok (.iconst 1, 1) := by decide +kernel
theorem dX12_wait_46 : decode cX12_wait 46 = .ok (.ireturn, 1) := by decide +kernel
theorem dX12_wait_7 : decode cX12_wait 7 = .ok (.ifCond .eq 12, 3) := by decide +kernel
set_option maxRecDepth 20000 in
theorem ggX12_wait_X11_forget : GoodIn wsX12_wait wsX11_forget := goodIn_r _ [13, 14, 33, 34, 35, 36, 37, 38] (by decide +kernel) (by decide +kernel)
set_option maxRecDepth 20000 in
theorem ggX12_wait_X12_within : GoodIn wsX12_wait wsX12_within := goodIn_r _ [8] (by decide +kernel) (by decide +kernel)
set_option maxRecDepth 20000 in
theorem gX12_wait_X11_forget : GoodIn wsX12_wait (wsV RX12 93 RX11 yX11_forget wsX11_forget) := goodIn_app (goodIn_of _ (by decide +kernel)) ggX12_wait_X11_forget
set_option maxRecDepth 20000 in
theorem gX12_wait_X12_within : GoodIn wsX12_wait (va_wsS RX12 77 yX12_within wsX12_within) := goodIn_app (goodIn_of _ (by decide +kernel)) ggX12_wait_X12_within
set_option maxRecDepth 20000 in
theorem in_X12_wait_X12 : ∀ w ∈ wsX120, w ∈ wsX12_wait := by decide +kernel
set_option maxRecDepth 20000 in
theorem in_X12_wait_X8 : ∀ w ∈ wsX80, w ∈ wsX12_wait := by decide +kernel
set_option maxHeartbeats 4000000 in
set_option maxRecDepth 100000 in
theorem f_X12_wait (l : Launch) (D : va_G) (T : Nat → ClassId) (sz : Nat) (h0 : Nat) (h1 : Nat) (h2 : Nat) (fs0 : List Value) (m0 : Int32) (m1 : Int32) (m2 : Int32) (m3 : Int32) (m4 : Int32) (m5 : Int32) (m6 : Int32) (v0 : Value) (v1 : Value) (v2 : Value) (v3 : Value) (v4 : Value) (n : Int32) (x1 : Int32) (x2 : Int32) (e0_3 : fs0[3]? = some (.ref h1)) (e0_6 : fs0[6]? = some (.ref h2)) : Met l yX12_wait wsX12_wait ({ frames := 1, cells := 0, slots := 0, locals := 22 }) (pW [.ref h0, .int x1, .int x2] D T [(h0, .inr (9, fs0)), (h1, .inr (5, [.int m0, .int m1, .int m2, .int m3, .int m4, .int m5, .int m6])), (h2, .inr (8, [v0, v1, v2, v3, v4, .int n]))] sz) (va_Qi (fun (r : Int32) (u : Unit) => r = sp_wait x1 x2) (bW D (va_A [(h0, .inr (9, fs0)), (h1, .inr (5, [.int m0, .int m1, .int m2, .int m3, .int m4, .int m5, .int m6])), (h2, .inr (8, [v0, v1, v2, v3, v4, .int n]))] sz) (fun (u : Unit) => ([] : va_W))) (va_A [(h0, .inr (9, fs0)), (h1, .inr (5, [.int m0, .int m1, .int m2, .int m3, .int m4, .int m5, .int m6])), (h2, .inr (8, [v0, v1, v2, v3, v4, .int n]))] sz)) 0 0 (va_A [(h0, .inr (9, fs0)), (h1, .inr (5, [.int m0, .int m1, .int m2, .int m3, .int m4, .int m5, .int m6])), (h2, .inr (8, [v0, v1, v2, v3, v4, .int n]))] sz) := by
  refine Met.ofW (cc := cX12_wait) (maxL := 3) (ret := (some .int)) (by decide) rfl ?_
  intro p e s m args below meth c s₁ B hml hv
  obtain ⟨rfl, hsz, hP, hE, hD0⟩ := hv
  have hx := B.exec
  have hb := B.bytes
  have hr := B.returns
  have hts := atoms_spec (ws := wsX12_wait) B.pre
  have hown : s.vm.findClass RX12 = some m.cls := findClass_of_methodNamed B.named
  have hlocks := B.notSynchronized
  subst hsz
  have hD := hD0.self (sz := s.heap.size)
  generalize hAe : va_A [(h0, .inr (9, fs0)), (h1, .inr (5, [.int m0, .int m1, .int m2, .int m3, .int m4, .int m5, .int m6])), (h2, .inr (8, [v0, v1, v2, v3, v4, .int n]))] s.heap.size = A at hD ⊢
  have hA : ∀ q : Nat, s.heap.size ≤ q → A q := fun q h => by rw [← hAe]; exact Or.inr h
  have hS : va_S A s.heap s.heap [] := va_S.rf
  have hP : va_P D vwCl [(h0, .inr (9, fs0)), (h1, .inr (5, [.int m0, .int m1, .int m2, .int m3, .int m4, .int m5, .int m6])), (h2, .inr (8, [v0, v1, v2, v3, v4, .int n]))] s.heap := hP
  have hl := lv_entry ([.ref h0, .int x1, .int x2]) (n := 3) (Nat.le_of_ble_eq_true rfl)
  rw [lg_entry_eq]
  generalize (lg_sl ([.ref h0, .int x1, .int x2]) ++ List.replicate (3 - (lg_sl ([.ref h0, .int x1, .int x2])).length) Slot.unset).toArray = ls at hl ⊢
  have hl : lv_has ls 3 [(0, .ref h0), (1, .int x1), (2, .int x2)] := hl
  clear hD0
  refine lv_iload_n hx hb dX12_wait_0 rfl (lv_at hl 2 rfl) ?_
  refine lv_iconst (v := 1) hx hb dX12_wait_1 (by decide) ?_
  refine lv_bipush (v := 9) hx hb dX12_wait_2 (by decide) ?_
  refine vp_callSi (W.runS (As := [.int x2, .int 1, .int 9]) (rest := []) ⟨hx, hb, hml, hown, hts⟩ (c_X12_within l D T x2 1 9 1 9 (by decide) (by decide)) (va_cwS 3 hts gX12_wait_X12_within rfl rfl rfl (by decide +kernel) ⟨Nat.le_of_ble_eq_true rfl, Nat.le_of_ble_eq_true rfl⟩) (pR_S hP hE [] rfl) rfl rfl hl.1 rfl (lv_room (Nat.le_of_ble_eq_true rfl)) dX12_wait_4 ⟨Nat.le_of_ble_eq_true rfl, Nat.le_of_ble_eq_true rfl⟩) (fun r_1 hr_1 => ?_)
  rcases bool_post hr_1 with ⟨c_2, rfl⟩ | ⟨c_2, rfl⟩
  · refine lv_if_eq (tgt := 19) hx hb dX12_wait_7 (by decide) (fun c9 => absurd c9 (by decide)) (fun _ => ?_)
    refine lv_iload_n hx hb dX12_wait_10 rfl (lv_at hl 1 rfl) ?_
    refine lv_iconst (v := 1) hx hb dX12_wait_11 (by decide) ?_
    refine lv_iload_n hx hb dX12_wait_12 rfl (lv_at hl 2 rfl) ?_
    refine vp_callSi (W.runS (As := [.int x1, .int 1, .int x2]) (rest := []) ⟨hx, hb, hml, hown, hts⟩ (c_X12_within l D T x1 1 x2 1 x2.toInt (by decide) rfl) (va_cwS 3 hts gX12_wait_X12_within rfl rfl rfl (by decide +kernel) ⟨Nat.le_of_ble_eq_true rfl, Nat.le_of_ble_eq_true rfl⟩) (pR_S hP hE [] rfl) rfl rfl hl.1 rfl (lv_room (Nat.le_of_ble_eq_true rfl)) dX12_wait_13 ⟨Nat.le_of_ble_eq_true rfl, Nat.le_of_ble_eq_true rfl⟩) (fun r_3 hr_3 => ?_)
    rcases bool_post hr_3 with ⟨c_4, rfl⟩ | ⟨c_4, rfl⟩
    · refine lv_if_ne (tgt := 22) hx hb dX12_wait_16 (by decide) (fun _ => ?_) (fun c9 => absurd c9 (by decide))
      refine lv_aload_n hx hb dX12_wait_22 rfl (lv_at hl 0 rfl) ?_
      refine va_get (D := D) (ci := 9) (v := .ref h1) (C := RX12) (T := TX12) (N := 11) hx hb hts in_X12_wait_X12 hown hE.1 hP 0 rfl rfl 3 (by decide) (hts (.fieldLink RX12 27 "ClauseBook" "lattice" "LClauseBook$Lattice;") (List.mem_of_getElem? (i := 1) rfl)) (fun _ h9 => h9) e0_3 dX12_wait_23 ?_
      refine lv_iload_n hx hb dX12_wait_26 rfl (lv_at hl 1 rfl) ?_
      refine va_put (D := D) (ci := 5) (v := .int x1) (ty := .int) (C := RX8) (T := TX8) (N := 7) hx hb hts in_X12_wait_X8 tyX8 tyX8_ok nmX8 hown hE.1 hP hD hS 1 rfl rfl 5 (by decide) (hts (.fieldLink RX12 102 "ClauseBook$Lattice" "a" "I") (List.mem_of_getElem? (i := 2) rfl)) (fun _ h9 => h9) rfl (by decide +kernel) rfl rfl (Nat.le_of_ble_eq_true rfl) dX12_wait_27 (fun H locs hP hD hS => ?_)
      have hP : va_P D vwCl [(h0, .inr (9, fs0)), (h1, .inr (5, [.int m0, .int m1, .int m2, .int m3, .int m4, .int x1, .int m6])), (h2, .inr (8, [v0, v1, v2, v3, v4, .int n]))] H := hP
      have hD : va_D A [(h0, .inr (9, fs0)), (h1, .inr (5, [.int m0, .int m1, .int m2, .int m3, .int m4, .int x1, .int m6])), (h2, .inr (8, [v0, v1, v2, v3, v4, .int n]))] := hD
      refine lv_aload_n hx hb dX12_wait_30 rfl (lv_at hl 0 rfl) ?_
      refine va_get (D := D) (ci := 9) (v := .ref h1) (C := RX12) (T := TX12) (N := 11) hx hb hts in_X12_wait_X12 hown hE.1 hP 0 rfl rfl 3 (by decide) (hts (.fieldLink RX12 27 "ClauseBook" "lattice" "LClauseBook$Lattice;") (List.mem_of_getElem? (i := 1) rfl)) (fun _ h9 => h9) e0_3 dX12_wait_31 ?_
      refine lv_iload_n hx hb dX12_wait_34 rfl (lv_at hl 2 rfl) ?_
      refine va_put (D := D) (ci := 5) (v := .int x2) (ty := .int) (C := RX8) (T := TX8) (N := 7) hx hb hts in_X12_wait_X8 tyX8 tyX8_ok nmX8 hown hE.1 hP hD hS 1 rfl rfl 6 (by decide) (hts (.fieldLink RX12 105 "ClauseBook$Lattice" "b" "I") (List.mem_of_getElem? (i := 3) rfl)) (fun _ h9 => h9) rfl (by decide +kernel) rfl rfl (Nat.le_of_ble_eq_true rfl) dX12_wait_35 (fun H locs hP hD hS => ?_)
      have hP : va_P D vwCl [(h0, .inr (9, fs0)), (h1, .inr (5, [.int m0, .int m1, .int m2, .int m3, .int m4, .int x1, .int x2])), (h2, .inr (8, [v0, v1, v2, v3, v4, .int n]))] H := hP
      have hD : va_D A [(h0, .inr (9, fs0)), (h1, .inr (5, [.int m0, .int m1, .int m2, .int m3, .int m4, .int x1, .int x2])), (h2, .inr (8, [v0, v1, v2, v3, v4, .int n]))] := hD
      refine lv_aload_n hx hb dX12_wait_38 rfl (lv_at hl 0 rfl) ?_
      refine va_get (D := D) (ci := 9) (v := .ref h2) (C := RX12) (T := TX12) (N := 11) hx hb hts in_X12_wait_X12 hown hE.1 hP 0 rfl rfl 6 (by decide) (hts (.fieldLink RX12 43 "ClauseBook" "worth" "LClauseBook$Worth;") (List.mem_of_getElem? (i := 4) rfl)) (fun _ h9 => h9) e0_6 dX12_wait_39 ?_
      have hFc := va_free (wc := [(h2, .inr (8, [v0, v1, v2, v3, v4, .int n]))]) hD hS hA [2] rfl
      refine va_callv (va_runV (As := []) (rest := []) ⟨hx, hb, hml, hown, hts⟩ (c_X11_forget l D T _ h2 (v0) (v1) (v2) (v3) (v4) n) (cwV 0 hts gX12_wait_X11_forget rfl rfl rfl (by decide +kernel) ⟨Nat.le_of_ble_eq_true rfl, Nat.le_of_ble_eq_true rfl⟩) (pW_V (ci := 8) (q0 := 2) hP hE hD rfl rfl [2] (by decide) rfl rfl) rfl rfl hl.1 rfl (lv_room (Nat.le_of_ble_eq_true rfl)) dX12_wait_42 ⟨Nat.le_of_ble_eq_true rfl, Nat.le_of_ble_eq_true rfl⟩) hS (fun q _ h => hFc q h) hFc (fun u_6 t H1 locs ht hvm hr_5 hB hz1 hk1 hS => ?_)
      obtain ⟨hP1, hD1⟩ := hB
      rw [ht] at hP1
      obtain ⟨hP, hD⟩ := va_join (wr := [(h0, .inr (9, fs0)), (h1, .inr (5, [.int m0, .int m1, .int m2, .int m3, .int m4, .int x1, .int x2]))]) (w1 := [(h2, .inr (8, [v0, v1, v2, v3, v4, .int u_6]))]) hP hD [2] [0, 1] rfl rfl (by decide) (by decide) hk1 hFc hP1 hD1
      clear hP1 hD1 hFc
      generalize H1 = H at hP hS ⊢
      have hP : va_P D vwCl [(h0, .inr (9, fs0)), (h1, .inr (5, [.int m0, .int m1, .int m2, .int m3, .int m4, .int x1, .int x2])), (h2, .inr (8, [v0, v1, v2, v3, v4, .int u_6]))] H := hP
      have hD : va_D A [(h0, .inr (9, fs0)), (h1, .inr (5, [.int m0, .int m1, .int m2, .int m3, .int m4, .int x1, .int x2])), (h2, .inr (8, [v0, v1, v2, v3, v4, .int u_6]))] := hD
      refine lv_iconst (v := 1) hx hb dX12_wait_45 (by decide) ?_
      exact W.iret hx hb hr (fun t ht hW => ⟨⟨_, (), rfl, (by first | decide | (unfold sp_wait; (repeat' split) <;> first | rfl | (exfalso; omega))), by rw [ht]; exact hP.sub [] rfl, hD.sub [] (by decide) rfl⟩, hS.F ht⟩) hS.2.2 dX12_wait_46
    · refine lv_if_ne (tgt := 22) hx hb dX12_wait_16 (by decide) (fun c9 => absurd c9 (by decide)) (fun _ => ?_)
      refine lv_bipush (v := (-2)) hx hb dX12_wait_19 (by decide) ?_
      exact W.iret hx hb hr (fun t ht hW => ⟨⟨_, (), rfl, (by first | decide | (unfold sp_wait; (repeat' split) <;> first | rfl | (exfalso; omega))), by rw [ht]; exact hP.sub [] rfl, hD.sub [] (by decide) rfl⟩, hS.F ht⟩) hS.2.2 dX12_wait_21
  · refine lv_if_eq (tgt := 19) hx hb dX12_wait_7 (by decide) (fun _ => ?_) (fun c9 => absurd c9 (by decide))
    refine lv_bipush (v := (-2)) hx hb dX12_wait_19 (by decide) ?_
    exact W.iret hx hb hr (fun t ht hW => ⟨⟨_, (), rfl, (by first | decide | (unfold sp_wait; (repeat' split) <;> first | rfl | (exfalso; omega))), by rw [ht]; exact hP.sub [] rfl, hD.sub [] (by decide) rfl⟩, hS.F ht⟩) hS.2.2 dX12_wait_21
theorem dX10_append_0 : decode cX10_append 0 = .ok (.aload_n 0, 1) := by decide +kernel
theorem dX10_append_1 : decode cX10_append 1 = .ok (.getfield 9, 3) := by decide +kernel
theorem dX10_append_10 : decode cX10_append 10 = .ok (.aload_n 0, 1) := by decide +kernel
theorem dX10_append_11 : decode cX10_append 11 = .ok (.getfield 15, 3) := by decide +kernel
theorem dX10_append_14 : decode cX10_append 14 = .ok (.aload_n 0, 1) := by decide +kernel
theorem dX10_append_15 : decode cX10_append 15 = .ok (.getfield 9, 3) := by decide +kernel
theorem dX10_append_18 : decode cX10_append 18 = .ok (.iload_n 1, 1) := by decide +kernel
theorem dX10_append_19 : decode cX10_append 19 = .ok (.iastore, 1) := by decide +kernel
theorem dX10_append_20 : decode cX10_append 20 = .ok (.aload_n 0, 1) := by decide +kernel
theorem dX10_append_21 : decode cX10_append 21 = .ok (.dup, 1) := by decide +kernel
theorem dX10_append_22 : decode cX10_append 22 = .ok (.getfield 9, 3) := by decide +kernel
theorem dX10_append_25 : decode cX10_append 25 = .ok (.iconst 1, 1) := by decide +kernel
theorem dX10_append_26 : decode cX10_append 26 = .ok (.iadd, 1) := by decide +kernel
theorem dX10_append_27 : decode cX10_append 27 = .ok (.putfield 9, 3) := by decide +kernel
theorem dX10_append_30 : decode cX10_append 30 = .ok (.return_, 1) := by decide +kernel
theorem dX10_append_4 : decode cX10_append 4 = .ok (.bipush 120, 2) := by decide +kernel
theorem dX10_append_6 : decode cX10_append 6 = .ok (.if_icmp .lt 4, 3) := by decide +kernel
set_option maxRecDepth 20000 in
theorem in_X10_append_X10 : ∀ w ∈ wsX100, w ∈ wsX10_append := by decide +kernel
set_option maxHeartbeats 4000000 in
set_option maxRecDepth 100000 in
theorem c_X10_append (l : Launch) (D : va_G) (T : Nat → ClassId) (sz : Nat) (h0 : Nat) (h1 : Nat) (n : Int32) (n2 : Int32) (v2 : Value) (v3 : Value) (m4 : Int32) (m5 : Int32) (m6 : Int32) (f : Nat → Int32) (x1 : Int32) (hn : vp_in n 120) (hn2 : n + 1 = n2) (hn3 : n < 120) : Met l yX10_append wsX10_append ({ frames := 0, cells := 0, slots := 0, locals := 0 }) (pW [.ref h0, .int x1] D T [(h0, .inr (7, [.int n, .ref h1, v2, v3, .int m4, .int m5, .int m6])), (h1, .inl (T 0, 120, .inl f))] sz) (va_Qv (fun (u : Nat → Int32) => True) (bW D (va_A [(h0, .inr (7, [.int n, .ref h1, v2, v3, .int m4, .int m5, .int m6])), (h1, .inl (T 0, 120, .inl f))] sz) (fun (u : Nat → Int32) => [(h0, .inr (7, [.int n2, .ref h1, v2, v3, .int m4, .int m5, .int m6])), (h1, .inl (T 0, 120, .inl u))])) (va_A [(h0, .inr (7, [.int n, .ref h1, v2, v3, .int m4, .int m5, .int m6])), (h1, .inl (T 0, 120, .inl f))] sz)) 0 0 (va_A [(h0, .inr (7, [.int n, .ref h1, v2, v3, .int m4, .int m5, .int m6])), (h1, .inl (T 0, 120, .inl f))] sz) := by
  refine Met.ofW (cc := cX10_append) (maxL := 2) (ret := none) (by decide) rfl ?_
  intro p e s m args below meth c s₁ B hml hv
  obtain ⟨rfl, hsz, hP, hE, hD0⟩ := hv
  have hx := B.exec
  have hb := B.bytes
  have hr := B.returns
  have hts := atoms_spec (ws := wsX10_append) B.pre
  have hown : s.vm.findClass RX10 = some m.cls := findClass_of_methodNamed B.named
  have hlocks := B.notSynchronized
  subst hsz
  have hD := hD0.self (sz := s.heap.size)
  generalize hAe : va_A [(h0, .inr (7, [.int n, .ref h1, v2, v3, .int m4, .int m5, .int m6])), (h1, .inl (T 0, 120, .inl f))] s.heap.size = A at hD ⊢
  have hA : ∀ q : Nat, s.heap.size ≤ q → A q := fun q h => by rw [← hAe]; exact Or.inr h
  have hS : va_S A s.heap s.heap [] := va_S.rf
  have hP : va_P D vwCl [(h0, .inr (7, [.int n, .ref h1, v2, v3, .int m4, .int m5, .int m6])), (h1, .inl (T 0, 120, .inl f))] s.heap := hP
  have hl := lv_entry ([.ref h0, .int x1]) (n := 2) (Nat.le_of_ble_eq_true rfl)
  rw [lg_entry_eq]
  generalize (lg_sl ([.ref h0, .int x1]) ++ List.replicate (2 - (lg_sl ([.ref h0, .int x1])).length) Slot.unset).toArray = ls at hl ⊢
  have hl : lv_has ls 2 [(0, .ref h0), (1, .int x1)] := hl
  clear hD0
  refine lv_aload_n hx hb dX10_append_0 rfl (lv_at hl 0 rfl) ?_
  refine va_get (D := D) (ci := 7) (v := .int n) (C := RX10) (T := TX10) (N := 7) hx hb hts in_X10_append_X10 hown hE.1 hP 0 rfl rfl 0 (by decide) (hts (.fieldLink RX10 9 "ClauseBook$Tape" "size" "I") (List.mem_of_getElem? (i := 1) rfl)) (fun _ h9 => h9) rfl dX10_append_1 ?_
  refine lv_bipush (v := 120) hx hb dX10_append_4 (by decide) ?_
  refine lv_icmp_lt (tgt := 10) hx hb dX10_append_6 (by decide) (fun c9 => ?_) (fun c9 => absurd c9 (not_not_intro hn3))
  refine lv_aload_n hx hb dX10_append_10 rfl (lv_at hl 0 rfl) ?_
  refine va_get (D := D) (ci := 7) (v := .ref h1) (C := RX10) (T := TX10) (N := 7) hx hb hts in_X10_append_X10 hown hE.1 hP 0 rfl rfl 1 (by decide) (hts (.fieldLink RX10 15 "ClauseBook$Tape" "bytes" "[I") (List.mem_of_getElem? (i := 2) rfl)) (fun _ h9 => h9) rfl dX10_append_11 ?_
  refine lv_aload_n hx hb dX10_append_14 rfl (lv_at hl 0 rfl) ?_
  refine va_get (D := D) (ci := 7) (v := .int n) (C := RX10) (T := TX10) (N := 7) hx hb hts in_X10_append_X10 hown hE.1 hP 0 rfl rfl 0 (by decide) (hts (.fieldLink RX10 9 "ClauseBook$Tape" "size" "I") (List.mem_of_getElem? (i := 1) rfl)) (fun _ h9 => h9) rfl dX10_append_15 ?_
  refine lv_iload_n hx hb dX10_append_18 rfl (lv_at hl 1 rfl) ?_
  refine va_iast hx hb hE.1 hP hD hS 1 0 rfl rfl (by assumption) dX10_append_19 (fun H locs hP hD hS => ?_)
  have hP : va_P D vwCl [(h0, .inr (7, [.int n, .ref h1, v2, v3, .int m4, .int m5, .int m6])), (h1, .inl (T 0, 120, .inl (upd f (n.toNatClampNeg) x1)))] H := hP
  have hD : va_D A [(h0, .inr (7, [.int n, .ref h1, v2, v3, .int m4, .int m5, .int m6])), (h1, .inl (T 0, 120, .inl (upd f (n.toNatClampNeg) x1)))] := hD
  refine lv_aload_n hx hb dX10_append_20 rfl (lv_at hl 0 rfl) ?_
  refine lv_dup hx hb dX10_append_21 rfl ?_
  refine va_get (D := D) (ci := 7) (v := .int n) (C := RX10) (T := TX10) (N := 7) hx hb hts in_X10_append_X10 hown hE.1 hP 0 rfl rfl 0 (by decide) (hts (.fieldLink RX10 9 "ClauseBook$Tape" "size" "I") (List.mem_of_getElem? (i := 1) rfl)) (fun _ h9 => h9) rfl dX10_append_22 ?_
  refine lv_iconst (v := 1) hx hb dX10_append_25 (by decide) ?_
  refine lv_iadd hx hb dX10_append_26 ?_
  refine lv_topi (fun z_1 ez_1 => ?_)
  refine va_put (D := D) (ci := 7) (v := .int z_1) (ty := .int) (C := RX10) (T := TX10) (N := 7) hx hb hts in_X10_append_X10 tyX10 tyX10_ok nmX10 hown hE.1 hP hD hS 0 rfl rfl 0 (by decide) (hts (.fieldLink RX10 9 "ClauseBook$Tape" "size" "I") (List.mem_of_getElem? (i := 1) rfl)) (fun _ h9 => h9) rfl (by decide +kernel) rfl rfl (Nat.le_of_ble_eq_true rfl) dX10_append_27 (fun H locs hP hD hS => ?_)
  have hP : va_P D vwCl [(h0, .inr (7, [.int z_1, .ref h1, v2, v3, .int m4, .int m5, .int m6])), (h1, .inl (T 0, 120, .inl (upd f (n.toNatClampNeg) x1)))] H := hP
  have hD : va_D A [(h0, .inr (7, [.int z_1, .ref h1, v2, v3, .int m4, .int m5, .int m6])), (h1, .inl (T 0, 120, .inl (upd f (n.toNatClampNeg) x1)))] := hD
  obtain rfl : z_1 = n2 := ez_1.trans hn2
  exact W.vret hx hb hr (fun t ht hW => ⟨⟨(upd f (n.toNatClampNeg) x1), rfl, trivial, by rw [ht]; exact hP.sub [0, 1] rfl, hD.sub [0, 1] (by decide) rfl⟩, hS.F ht⟩) hS.2.2 dX10_append_30
theorem in14 {x : Int32} (h : 1 ≤ x.toInt ∧ x.toInt ≤ 4) : x = 1 ∨ x = 2 ∨ x = 3 ∨ x = 4 := by
  simp only [fa_eq, ti_1, ti_2, ti_3, ti_4]
  omega
theorem dX12_feed_0 : decode cX12_feed 0 = .ok (.iload_n 1, 1) := by decide +kernel
theorem dX12_feed_1 : decode cX12_feed 1 = .ok (.iconst 1, 1) := by decide +kernel
theorem dX12_feed_11 : decode cX12_feed 11 = .ok (.ireturn, 1) := by decide +kernel
theorem dX12_feed_12 : decode cX12_feed 12 = .ok (.aload_n 0, 1) := by decide +kernel
theorem dX12_feed_13 : decode cX12_feed 13 = .ok (.getfield 59, 3) := by decide +kernel
theorem dX12_feed_16 : decode cX12_feed 16 = .ok (.getfield 285, 3) := by decide +kernel
theorem dX12_feed_19 : decode cX12_feed 19 = .ok (.iload_n 1, 1) := by decide +kernel
theorem dX12_feed_2 : decode cX12_feed 2 = .ok (.iconst 4, 1) := by decide +kernel
theorem dX12_feed_20 : decode cX12_feed 20 = .ok (.iadd, 1) := by decide +kernel
theorem dX12_feed_21 : decode cX12_feed 21 = .ok (.bipush 120, 2) := by decide +kernel
theorem dX12_feed_23 : decode cX12_feed 23 = .ok (.if_icmp .le 6, 3) := by decide +kernel
theorem dX12_feed_29 : decode cX12_feed 29 = .ok (.iconst 0, 1) := by decide +kernel
theorem dX12_feed_3 : decode cX12_feed 3 = .ok (.invokestatic 77, 3) := by decide +kernel
theorem dX12_feed_30 : decode cX12_feed 30 = .ok (.istore_n 3, 1) := by decide +kernel
theorem dX12_feed_31 : decode cX12_feed 31 = .ok (.iload_n 3, 1) := by decide +kernel
theorem dX12_feed_32 : decode cX12_feed 32 = .ok (.iload_n 1, 1) := by decide +kernel
theorem dX12_feed_33 : decode cX12_feed 33 = .ok (.if_icmp .ge 29, 3) := by decide +kernel
theorem dX12_feed_36 : decode cX12_feed 36 = .ok (.aload_n 0, 1) := by decide +kernel
theorem dX12_feed_37 : decode cX12_feed 37 = .ok (.getfield 59, 3) := by decide +kernel
theorem dX12_feed_40 : decode cX12_feed 40 = .ok (.iload_n 2, 1) := by decide +kernel
theorem dX12_feed_41 : decode cX12_feed 41 = .ok (.bipush 24, 2) := by decide +kernel
theorem dX12_feed_43 : decode cX12_feed 43 = .ok (.bipush 8, 2) := by decide +kernel
theorem dX12_feed_45 : decode cX12_feed 45 = .ok (.iload_n 3, 1) := by decide +kernel
theorem dX12_feed_46 : decode cX12_feed 46 = .ok (.imul, 1) := by decide +kernel
theorem dX12_feed_47 : decode cX12_feed 47 = .ok (.isub, 1) := by decide +kernel
theorem dX12_feed_48 : decode cX12_feed 48 = .ok (.iushr, 1) := by decide +kernel
theorem dX12_feed_49 : decode cX12_feed 49 = .ok (.sipush 255, 3) := by decide +kernel
theorem dX12_feed_52 : decode cX12_feed 52 = .ok (.iand, 1) := by decide +kernel
theorem dX12_feed_53 : decode cX12_feed 53 = .ok (.invokevirtual 286, 3) := by decide +kernel
theorem dX12_feed_56 : decode cX12_feed 56 = .ok (.iinc 3 1, 3) := by decide +kernel
theorem dX12_feed_59 : decode cX12_feed 59 = .ok (.goto (-28), 3) := by decide +kernel
theorem dX12_feed_6 : decode cX12_feed 6 = .ok (.ifCond .ne 6, 3) := by decide +kernel
theorem dX12_feed_62 : decode cX12_feed 62 = .ok (.aload_n 0, 1) := by decide +kernel
theorem dX12_feed_63 : decode cX12_feed 63 = .ok (.getfield 59, 3) := by decide +kernel
theorem dX12_feed_66 : decode cX12_feed 66 = .ok (.getfield 285, 3) := by decide +kernel
theorem dX12_feed_69 : decode cX12_feed 69 = .ok (.ireturn, 1) := by decide +kernel
theorem dX12_feed_9 : decode cX12_feed 9 = .ok (.bipush (-2), 2) := by decide +kernel
set_option maxRecDepth 20000 in
theorem ggX12_feed_X10_append : GoodIn wsX12_feed wsX10_append := goodIn_r _ [11, 12, 13, 25, 26, 27, 28, 29, 30, 31] (by decide +kernel) (by decide +kernel)
set_option maxRecDepth 20000 in
theorem ggX12_feed_X12_within : GoodIn wsX12_feed wsX12_within := goodIn_r _ [6] (by decide +kernel) (by decide +kernel)
set_option maxRecDepth 20000 in
theorem gX12_feed_X10_append : GoodIn wsX12_feed (wsV RX12 286 RX10 yX10_append wsX10_append) := goodIn_app (goodIn_of _ (by decide +kernel)) ggX12_feed_X10_append
set_option maxRecDepth 20000 in
theorem gX12_feed_X12_within : GoodIn wsX12_feed (va_wsS RX12 77 yX12_within wsX12_within) := goodIn_app (goodIn_of _ (by decide +kernel)) ggX12_feed_X12_within
set_option maxRecDepth 20000 in
theorem in_X12_feed_X10 : ∀ w ∈ wsX100, w ∈ wsX12_feed := by decide +kernel
set_option maxRecDepth 20000 in
theorem in_X12_feed_X12 : ∀ w ∈ wsX120, w ∈ wsX12_feed := by decide +kernel
set_option maxHeartbeats 4000000 in
set_option maxRecDepth 100000 in
theorem f_X12_feed (l : Launch) (D : va_G) (T : Nat → ClassId) (sz : Nat) (h0 : Nat) (h1 : Nat) (h2 : Nat) (fs0 : List Value) (v2 : Value) (v3 : Value) (m4 : Int32) (m5 : Int32) (m6 : Int32) (f : Nat → Int32) (x1 : Int32) (x2 : Int32) (e0_8 : fs0[8]? = some (.ref h1)) : Met l yX12_feed wsX12_feed ({ frames := 1, cells := 0, slots := 0, locals := 22 }) (pW [.ref h0, .int x1, .int x2] D T [(h0, .inr (9, fs0)), (h1, .inr (7, [.int 0, .ref h2, v2, v3, .int m4, .int m5, .int m6])), (h2, .inl (T 0, 120, .inl f))] sz) (va_Qi (fun (r : Int32) (u : Unit) => r = sp_feed x1) (bW D (va_A [(h0, .inr (9, fs0)), (h1, .inr (7, [.int 0, .ref h2, v2, v3, .int m4, .int m5, .int m6])), (h2, .inl (T 0, 120, .inl f))] sz) (fun (u : Unit) => ([] : va_W))) (va_A [(h0, .inr (9, fs0)), (h1, .inr (7, [.int 0, .ref h2, v2, v3, .int m4, .int m5, .int m6])), (h2, .inl (T 0, 120, .inl f))] sz)) 0 0 (va_A [(h0, .inr (9, fs0)), (h1, .inr (7, [.int 0, .ref h2, v2, v3, .int m4, .int m5, .int m6])), (h2, .inl (T 0, 120, .inl f))] sz) := by
  refine Met.ofW (cc := cX12_feed) (maxL := 4) (ret := (some .int)) (by decide) rfl ?_
  intro p e s m args below meth c s₁ B hml hv
  obtain ⟨rfl, hsz, hP, hE, hD0⟩ := hv
  have hx := B.exec
  have hb := B.bytes
  have hr := B.returns
  have hts := atoms_spec (ws := wsX12_feed) B.pre
  have hown : s.vm.findClass RX12 = some m.cls := findClass_of_methodNamed B.named
  have hlocks := B.notSynchronized
  subst hsz
  have hD := hD0.self (sz := s.heap.size)
  generalize hAe : va_A [(h0, .inr (9, fs0)), (h1, .inr (7, [.int 0, .ref h2, v2, v3, .int m4, .int m5, .int m6])), (h2, .inl (T 0, 120, .inl f))] s.heap.size = A at hD ⊢
  have hA : ∀ q : Nat, s.heap.size ≤ q → A q := fun q h => by rw [← hAe]; exact Or.inr h
  have hS : va_S A s.heap s.heap [] := va_S.rf
  have hP : va_P D vwCl [(h0, .inr (9, fs0)), (h1, .inr (7, [.int 0, .ref h2, v2, v3, .int m4, .int m5, .int m6])), (h2, .inl (T 0, 120, .inl f))] s.heap := hP
  have hl := lv_entry ([.ref h0, .int x1, .int x2]) (n := 4) (Nat.le_of_ble_eq_true rfl)
  rw [lg_entry_eq]
  generalize (lg_sl ([.ref h0, .int x1, .int x2]) ++ List.replicate (4 - (lg_sl ([.ref h0, .int x1, .int x2])).length) Slot.unset).toArray = ls at hl ⊢
  have hl : lv_has ls 4 [(0, .ref h0), (1, .int x1), (2, .int x2)] := hl
  clear hD0
  refine lv_iload_n hx hb dX12_feed_0 rfl (lv_at hl 1 rfl) ?_
  refine lv_iconst (v := 1) hx hb dX12_feed_1 (by decide) ?_
  refine lv_iconst (v := 4) hx hb dX12_feed_2 (by decide) ?_
  refine vp_callSi (W.runS (As := [.int x1, .int 1, .int 4]) (rest := []) ⟨hx, hb, hml, hown, hts⟩ (c_X12_within l D T x1 1 4 1 4 (by decide) (by decide)) (va_cwS 3 hts gX12_feed_X12_within rfl rfl rfl (by decide +kernel) ⟨Nat.le_of_ble_eq_true rfl, Nat.le_of_ble_eq_true rfl⟩) (pR_S hP hE [] rfl) rfl rfl hl.1 rfl (lv_room (Nat.le_of_ble_eq_true rfl)) dX12_feed_3 ⟨Nat.le_of_ble_eq_true rfl, Nat.le_of_ble_eq_true rfl⟩) (fun r_1 hr_1 => ?_)
  rcases bool_post hr_1 with ⟨c_2, rfl⟩ | ⟨c_2, rfl⟩
  · refine lv_if_ne (tgt := 12) hx hb dX12_feed_6 (by decide) (fun _ => ?_) (fun c9 => absurd c9 (by decide))
    rcases in14 (x := x1) (by omega) with rfl | rfl | rfl | rfl
    · refine lv_aload_n hx hb dX12_feed_12 rfl (lv_at hl 0 rfl) ?_
      refine va_get (D := D) (ci := 9) (v := .ref h1) (C := RX12) (T := TX12) (N := 11) hx hb hts in_X12_feed_X12 hown hE.1 hP 0 rfl rfl 8 (by decide) (hts (.fieldLink RX12 59 "ClauseBook" "tape" "LClauseBook$Tape;") (List.mem_of_getElem? (i := 1) rfl)) (fun _ h9 => h9) e0_8 dX12_feed_13 ?_
      refine va_get (D := D) (ci := 7) (v := .int 0) (C := RX10) (T := TX10) (N := 7) hx hb hts in_X12_feed_X10 hown hE.1 hP 1 rfl rfl 0 (by decide) (hts (.fieldLink RX12 285 "ClauseBook$Tape" "size" "I") (List.mem_of_getElem? (i := 2) rfl)) (fun _ h9 => h9) rfl dX12_feed_16 ?_
      refine lv_iload_n hx hb dX12_feed_19 rfl (lv_at hl 1 rfl) ?_
      refine lv_iadd hx hb dX12_feed_20 ?_
      refine lv_topi (fun z_3 ez_3 => ?_)
      obtain rfl : z_3 = 1 := ez_3.trans (by decide)
      refine lv_bipush (v := 120) hx hb dX12_feed_21 (by decide) ?_
      refine lv_icmp_le (tgt := 29) hx hb dX12_feed_23 (by decide) (fun _ => ?_) (fun c9 => absurd c9 (by decide))
      refine lv_iconst (v := 0) hx hb dX12_feed_29 (by decide) ?_
      refine lv_istore_n (lv' := [(3, .int 0), (0, .ref h0), (1, .int 1), (2, .int x2)]) hx hb dX12_feed_30 rfl hl (by decide) rfl (fun ls hl => ?_)
      refine lv_iload_n hx hb dX12_feed_31 rfl (lv_at hl 0 rfl) ?_
      refine lv_iload_n hx hb dX12_feed_32 rfl (lv_at hl 2 rfl) ?_
      refine lv_icmp_ge (tgt := 62) hx hb dX12_feed_33 (by decide) (fun c9 => absurd c9 (by decide)) (fun _ => ?_)
      refine lv_aload_n hx hb dX12_feed_36 rfl (lv_at hl 1 rfl) ?_
      refine va_get (D := D) (ci := 9) (v := .ref h1) (C := RX12) (T := TX12) (N := 11) hx hb hts in_X12_feed_X12 hown hE.1 hP 0 rfl rfl 8 (by decide) (hts (.fieldLink RX12 59 "ClauseBook" "tape" "LClauseBook$Tape;") (List.mem_of_getElem? (i := 1) rfl)) (fun _ h9 => h9) e0_8 dX12_feed_37 ?_
      refine lv_iload_n hx hb dX12_feed_40 rfl (lv_at hl 3 rfl) ?_
      refine lv_bipush (v := 24) hx hb dX12_feed_41 (by decide) ?_
      refine lv_bipush (v := 8) hx hb dX12_feed_43 (by decide) ?_
      refine lv_iload_n hx hb dX12_feed_45 rfl (lv_at hl 0 rfl) ?_
      refine lv_imul hx hb dX12_feed_46 ?_
      refine lv_topi (fun z_4 ez_4 => ?_)
      obtain rfl : z_4 = 0 := ez_4.trans (by decide)
      refine lv_isub hx hb dX12_feed_47 ?_
      refine lv_topi (fun z_5 ez_5 => ?_)
      obtain rfl : z_5 = 24 := ez_5.trans (by decide)
      obtain ⟨z_6, ez_6⟩ : ∃ y : Int32, (x2.toUInt32 >>> ((24 : Int32).toUInt32 &&& Int32.toUInt32 31)).toInt32 = y := ⟨_, rfl⟩
      refine lv_iushr (v := z_6) hx hb dX12_feed_48 ez_6 ?_
      refine lv_sipush (v := 255) hx hb dX12_feed_49 (by decide) ?_
      refine lv_iand hx hb dX12_feed_52 ?_
      have hFc := va_free (wc := [(h1, .inr (7, [.int 0, .ref h2, v2, v3, .int m4, .int m5, .int m6])), (h2, .inl (T 0, 120, .inl f))]) hD hS hA [1, 2] rfl
      refine va_callv (va_runV (As := [.int (z_6 &&& 255)]) (rest := []) ⟨hx, hb, hml, hown, hts⟩ (c_X10_append l D T _ h1 h2 0 1 (v2) (v3) m4 m5 m6 f (z_6 &&& 255) (by unfold vp_in; decide) (by decide) (by decide)) (cwV 1 hts gX12_feed_X10_append rfl rfl rfl (by decide +kernel) ⟨Nat.le_of_ble_eq_true rfl, Nat.le_of_ble_eq_true rfl⟩) (pW_V (ci := 7) (q0 := 1) hP hE hD rfl rfl [1, 2] (by decide) rfl rfl) rfl rfl hl.1 rfl (lv_room (Nat.le_of_ble_eq_true rfl)) dX12_feed_53 ⟨Nat.le_of_ble_eq_true rfl, Nat.le_of_ble_eq_true rfl⟩) hS (fun q _ h => hFc q h) hFc (fun u_8 t H1 locs ht hvm hr_7 hB hz1 hk1 hS => ?_)
      obtain ⟨hP1, hD1⟩ := hB
      rw [ht] at hP1
      obtain ⟨hP, hD⟩ := va_join (wr := [(h0, .inr (9, fs0))]) (w1 := [(h1, .inr (7, [.int 1, .ref h2, v2, v3, .int m4, .int m5, .int m6])), (h2, .inl (T 0, 120, .inl u_8))]) hP hD [1, 2] [0] rfl rfl (by decide) (by decide) hk1 hFc hP1 hD1
      clear hP1 hD1 hFc
      generalize H1 = H at hP hS ⊢
      have hP : va_P D vwCl [(h0, .inr (9, fs0)), (h1, .inr (7, [.int 1, .ref h2, v2, v3, .int m4, .int m5, .int m6])), (h2, .inl (T 0, 120, .inl u_8))] H := hP
      have hD : va_D A [(h0, .inr (9, fs0)), (h1, .inr (7, [.int 1, .ref h2, v2, v3, .int m4, .int m5, .int m6])), (h2, .inl (T 0, 120, .inl u_8))] := hD
      refine lv_iinc (v := 1) (lv' := [(3, .int 1), (0, .ref h0), (1, .int 1), (2, .int x2)]) hx hb dX12_feed_56 hl (k := 0) rfl (by decide) (by decide) rfl (fun ls hl => ?_)
      refine lv_goto (tgt := 31) hx hb dX12_feed_59 (by decide) ?_
      refine lv_iload_n hx hb dX12_feed_31 rfl (lv_at hl 0 rfl) ?_
      refine lv_iload_n hx hb dX12_feed_32 rfl (lv_at hl 2 rfl) ?_
      refine lv_icmp_ge (tgt := 62) hx hb dX12_feed_33 (by decide) (fun _ => ?_) (fun c9 => absurd c9 (by decide))
      refine lv_aload_n hx hb dX12_feed_62 rfl (lv_at hl 1 rfl) ?_
      refine va_get (D := D) (ci := 9) (v := .ref h1) (C := RX12) (T := TX12) (N := 11) hx hb hts in_X12_feed_X12 hown hE.1 hP 0 rfl rfl 8 (by decide) (hts (.fieldLink RX12 59 "ClauseBook" "tape" "LClauseBook$Tape;") (List.mem_of_getElem? (i := 1) rfl)) (fun _ h9 => h9) e0_8 dX12_feed_63 ?_
      refine va_get (D := D) (ci := 7) (v := .int 1) (C := RX10) (T := TX10) (N := 7) hx hb hts in_X12_feed_X10 hown hE.1 hP 1 rfl rfl 0 (by decide) (hts (.fieldLink RX12 285 "ClauseBook$Tape" "size" "I") (List.mem_of_getElem? (i := 2) rfl)) (fun _ h9 => h9) rfl dX12_feed_66 ?_
      exact W.iret hx hb hr (fun t ht hW => ⟨⟨_, (), rfl, (by first | decide | (unfold sp_feed; (repeat' split) <;> first | rfl | (exfalso; omega))), by rw [ht]; exact hP.sub [] rfl, hD.sub [] (by decide) rfl⟩, hS.F ht⟩) hS.2.2 dX12_feed_69
    · refine lv_aload_n hx hb dX12_feed_12 rfl (lv_at hl 0 rfl) ?_
      refine va_get (D := D) (ci := 9) (v := .ref h1) (C := RX12) (T := TX12) (N := 11) hx hb hts in_X12_feed_X12 hown hE.1 hP 0 rfl rfl 8 (by decide) (hts (.fieldLink RX12 59 "ClauseBook" "tape" "LClauseBook$Tape;") (List.mem_of_getElem? (i := 1) rfl)) (fun _ h9 => h9) e0_8 dX12_feed_13 ?_
      refine va_get (D := D) (ci := 7) (v := .int 0) (C := RX10) (T := TX10) (N := 7) hx hb hts in_X12_feed_X10 hown hE.1 hP 1 rfl rfl 0 (by decide) (hts (.fieldLink RX12 285 "ClauseBook$Tape" "size" "I") (List.mem_of_getElem? (i := 2) rfl)) (fun _ h9 => h9) rfl dX12_feed_16 ?_
      refine lv_iload_n hx hb dX12_feed_19 rfl (lv_at hl 1 rfl) ?_
      refine lv_iadd hx hb dX12_feed_20 ?_
      refine lv_topi (fun z_9 ez_9 => ?_)
      obtain rfl : z_9 = 2 := ez_9.trans (by decide)
      refine lv_bipush (v := 120) hx hb dX12_feed_21 (by decide) ?_
      refine lv_icmp_le (tgt := 29) hx hb dX12_feed_23 (by decide) (fun _ => ?_) (fun c9 => absurd c9 (by decide))
      refine lv_iconst (v := 0) hx hb dX12_feed_29 (by decide) ?_
      refine lv_istore_n (lv' := [(3, .int 0), (0, .ref h0), (1, .int 2), (2, .int x2)]) hx hb dX12_feed_30 rfl hl (by decide) rfl (fun ls hl => ?_)
      refine lv_iload_n hx hb dX12_feed_31 rfl (lv_at hl 0 rfl) ?_
      refine lv_iload_n hx hb dX12_feed_32 rfl (lv_at hl 2 rfl) ?_
      refine lv_icmp_ge (tgt := 62) hx hb dX12_feed_33 (by decide) (fun c9 => absurd c9 (by decide)) (fun _ => ?_)
      refine lv_aload_n hx hb dX12_feed_36 rfl (lv_at hl 1 rfl) ?_
      refine va_get (D := D) (ci := 9) (v := .ref h1) (C := RX12) (T := TX12) (N := 11) hx hb hts in_X12_feed_X12 hown hE.1 hP 0 rfl rfl 8 (by decide) (hts (.fieldLink RX12 59 "ClauseBook" "tape" "LClauseBook$Tape;") (List.mem_of_getElem? (i := 1) rfl)) (fun _ h9 => h9) e0_8 dX12_feed_37 ?_
      refine lv_iload_n hx hb dX12_feed_40 rfl (lv_at hl 3 rfl) ?_
      refine lv_bipush (v := 24) hx hb dX12_feed_41 (by decide) ?_
      refine lv_bipush (v := 8) hx hb dX12_feed_43 (by decide) ?_
      refine lv_iload_n hx hb dX12_feed_45 rfl (lv_at hl 0 rfl) ?_
      refine lv_imul hx hb dX12_feed_46 ?_
      refine lv_topi (fun z_10 ez_10 => ?_)
      obtain rfl : z_10 = 0 := ez_10.trans (by decide)
      refine lv_isub hx hb dX12_feed_47 ?_
      refine lv_topi (fun z_11 ez_11 => ?_)
      obtain rfl : z_11 = 24 := ez_11.trans (by decide)
      obtain ⟨z_12, ez_12⟩ : ∃ y : Int32, (x2.toUInt32 >>> ((24 : Int32).toUInt32 &&& Int32.toUInt32 31)).toInt32 = y := ⟨_, rfl⟩
      refine lv_iushr (v := z_12) hx hb dX12_feed_48 ez_12 ?_
      refine lv_sipush (v := 255) hx hb dX12_feed_49 (by decide) ?_
      refine lv_iand hx hb dX12_feed_52 ?_
      have hFc := va_free (wc := [(h1, .inr (7, [.int 0, .ref h2, v2, v3, .int m4, .int m5, .int m6])), (h2, .inl (T 0, 120, .inl f))]) hD hS hA [1, 2] rfl
      refine va_callv (va_runV (As := [.int (z_12 &&& 255)]) (rest := []) ⟨hx, hb, hml, hown, hts⟩ (c_X10_append l D T _ h1 h2 0 1 (v2) (v3) m4 m5 m6 f (z_12 &&& 255) (by unfold vp_in; decide) (by decide) (by decide)) (cwV 1 hts gX12_feed_X10_append rfl rfl rfl (by decide +kernel) ⟨Nat.le_of_ble_eq_true rfl, Nat.le_of_ble_eq_true rfl⟩) (pW_V (ci := 7) (q0 := 1) hP hE hD rfl rfl [1, 2] (by decide) rfl rfl) rfl rfl hl.1 rfl (lv_room (Nat.le_of_ble_eq_true rfl)) dX12_feed_53 ⟨Nat.le_of_ble_eq_true rfl, Nat.le_of_ble_eq_true rfl⟩) hS (fun q _ h => hFc q h) hFc (fun u_14 t H1 locs ht hvm hr_13 hB hz1 hk1 hS => ?_)
      obtain ⟨hP1, hD1⟩ := hB
      rw [ht] at hP1
      obtain ⟨hP, hD⟩ := va_join (wr := [(h0, .inr (9, fs0))]) (w1 := [(h1, .inr (7, [.int 1, .ref h2, v2, v3, .int m4, .int m5, .int m6])), (h2, .inl (T 0, 120, .inl u_14))]) hP hD [1, 2] [0] rfl rfl (by decide) (by decide) hk1 hFc hP1 hD1
      clear hP1 hD1 hFc
      generalize H1 = H at hP hS ⊢
      have hP : va_P D vwCl [(h0, .inr (9, fs0)), (h1, .inr (7, [.int 1, .ref h2, v2, v3, .int m4, .int m5, .int m6])), (h2, .inl (T 0, 120, .inl u_14))] H := hP
      have hD : va_D A [(h0, .inr (9, fs0)), (h1, .inr (7, [.int 1, .ref h2, v2, v3, .int m4, .int m5, .int m6])), (h2, .inl (T 0, 120, .inl u_14))] := hD
      refine lv_iinc (v := 1) (lv' := [(3, .int 1), (0, .ref h0), (1, .int 2), (2, .int x2)]) hx hb dX12_feed_56 hl (k := 0) rfl (by decide) (by decide) rfl (fun ls hl => ?_)
      refine lv_goto (tgt := 31) hx hb dX12_feed_59 (by decide) ?_
      refine lv_iload_n hx hb dX12_feed_31 rfl (lv_at hl 0 rfl) ?_
      refine lv_iload_n hx hb dX12_feed_32 rfl (lv_at hl 2 rfl) ?_
      refine lv_icmp_ge (tgt := 62) hx hb dX12_feed_33 (by decide) (fun c9 => absurd c9 (by decide)) (fun _ => ?_)
      refine lv_aload_n hx hb dX12_feed_36 rfl (lv_at hl 1 rfl) ?_
      refine va_get (D := D) (ci := 9) (v := .ref h1) (C := RX12) (T := TX12) (N := 11) hx hb hts in_X12_feed_X12 hown hE.1 hP 0 rfl rfl 8 (by decide) (hts (.fieldLink RX12 59 "ClauseBook" "tape" "LClauseBook$Tape;") (List.mem_of_getElem? (i := 1) rfl)) (fun _ h9 => h9) e0_8 dX12_feed_37 ?_
      refine lv_iload_n hx hb dX12_feed_40 rfl (lv_at hl 3 rfl) ?_
      refine lv_bipush (v := 24) hx hb dX12_feed_41 (by decide) ?_
      refine lv_bipush (v := 8) hx hb dX12_feed_43 (by decide) ?_
      refine lv_iload_n hx hb dX12_feed_45 rfl (lv_at hl 0 rfl) ?_
      refine lv_imul hx hb dX12_feed_46 ?_
      refine lv_topi (fun z_15 ez_15 => ?_)
      obtain rfl : z_15 = 8 := ez_15.trans (by decide)
      refine lv_isub hx hb dX12_feed_47 ?_
      refine lv_topi (fun z_16 ez_16 => ?_)
      obtain rfl : z_16 = 16 := ez_16.trans (by decide)
      obtain ⟨z_17, ez_17⟩ : ∃ y : Int32, (x2.toUInt32 >>> ((16 : Int32).toUInt32 &&& Int32.toUInt32 31)).toInt32 = y := ⟨_, rfl⟩
      refine lv_iushr (v := z_17) hx hb dX12_feed_48 ez_17 ?_
      refine lv_sipush (v := 255) hx hb dX12_feed_49 (by decide) ?_
      refine lv_iand hx hb dX12_feed_52 ?_
      have hFc := va_free (wc := [(h1, .inr (7, [.int 1, .ref h2, v2, v3, .int m4, .int m5, .int m6])), (h2, .inl (T 0, 120, .inl u_14))]) hD hS hA [1, 2] rfl
      refine va_callv (va_runV (As := [.int (z_17 &&& 255)]) (rest := []) ⟨hx, hb, hml, hown, hts⟩ (c_X10_append l D T _ h1 h2 1 2 (v2) (v3) m4 m5 m6 u_14 (z_17 &&& 255) (by unfold vp_in; decide) (by decide) (by decide)) (cwV 1 hts gX12_feed_X10_append rfl rfl rfl (by decide +kernel) ⟨Nat.le_of_ble_eq_true rfl, Nat.le_of_ble_eq_true rfl⟩) (pW_V (ci := 7) (q0 := 1) hP hE hD rfl rfl [1, 2] (by decide) rfl rfl) rfl rfl hl.1 rfl (lv_room (Nat.le_of_ble_eq_true rfl)) dX12_feed_53 ⟨Nat.le_of_ble_eq_true rfl, Nat.le_of_ble_eq_true rfl⟩) hS (fun q _ h => hFc q h) hFc (fun u_19 t H1 locs ht hvm hr_18 hB hz1 hk1 hS => ?_)
      obtain ⟨hP1, hD1⟩ := hB
      rw [ht] at hP1
      obtain ⟨hP, hD⟩ := va_join (wr := [(h0, .inr (9, fs0))]) (w1 := [(h1, .inr (7, [.int 2, .ref h2, v2, v3, .int m4, .int m5, .int m6])), (h2, .inl (T 0, 120, .inl u_19))]) hP hD [1, 2] [0] rfl rfl (by decide) (by decide) hk1 hFc hP1 hD1
      clear hP1 hD1 hFc
      generalize H1 = H at hP hS ⊢
      have hP : va_P D vwCl [(h0, .inr (9, fs0)), (h1, .inr (7, [.int 2, .ref h2, v2, v3, .int m4, .int m5, .int m6])), (h2, .inl (T 0, 120, .inl u_19))] H := hP
      have hD : va_D A [(h0, .inr (9, fs0)), (h1, .inr (7, [.int 2, .ref h2, v2, v3, .int m4, .int m5, .int m6])), (h2, .inl (T 0, 120, .inl u_19))] := hD
      refine lv_iinc (v := 2) (lv' := [(3, .int 2), (0, .ref h0), (1, .int 2), (2, .int x2)]) hx hb dX12_feed_56 hl (k := 0) rfl (by decide) (by decide) rfl (fun ls hl => ?_)
      refine lv_goto (tgt := 31) hx hb dX12_feed_59 (by decide) ?_
      refine lv_iload_n hx hb dX12_feed_31 rfl (lv_at hl 0 rfl) ?_
      refine lv_iload_n hx hb dX12_feed_32 rfl (lv_at hl 2 rfl) ?_
      refine lv_icmp_ge (tgt := 62) hx hb dX12_feed_33 (by decide) (fun _ => ?_) (fun c9 => absurd c9 (by decide))
      refine lv_aload_n hx hb dX12_feed_62 rfl (lv_at hl 1 rfl) ?_
      refine va_get (D := D) (ci := 9) (v := .ref h1) (C := RX12) (T := TX12) (N := 11) hx hb hts in_X12_feed_X12 hown hE.1 hP 0 rfl rfl 8 (by decide) (hts (.fieldLink RX12 59 "ClauseBook" "tape" "LClauseBook$Tape;") (List.mem_of_getElem? (i := 1) rfl)) (fun _ h9 => h9) e0_8 dX12_feed_63 ?_
      refine va_get (D := D) (ci := 7) (v := .int 2) (C := RX10) (T := TX10) (N := 7) hx hb hts in_X12_feed_X10 hown hE.1 hP 1 rfl rfl 0 (by decide) (hts (.fieldLink RX12 285 "ClauseBook$Tape" "size" "I") (List.mem_of_getElem? (i := 2) rfl)) (fun _ h9 => h9) rfl dX12_feed_66 ?_
      exact W.iret hx hb hr (fun t ht hW => ⟨⟨_, (), rfl, (by first | decide | (unfold sp_feed; (repeat' split) <;> first | rfl | (exfalso; omega))), by rw [ht]; exact hP.sub [] rfl, hD.sub [] (by decide) rfl⟩, hS.F ht⟩) hS.2.2 dX12_feed_69
    · refine lv_aload_n hx hb dX12_feed_12 rfl (lv_at hl 0 rfl) ?_
      refine va_get (D := D) (ci := 9) (v := .ref h1) (C := RX12) (T := TX12) (N := 11) hx hb hts in_X12_feed_X12 hown hE.1 hP 0 rfl rfl 8 (by decide) (hts (.fieldLink RX12 59 "ClauseBook" "tape" "LClauseBook$Tape;") (List.mem_of_getElem? (i := 1) rfl)) (fun _ h9 => h9) e0_8 dX12_feed_13 ?_
      refine va_get (D := D) (ci := 7) (v := .int 0) (C := RX10) (T := TX10) (N := 7) hx hb hts in_X12_feed_X10 hown hE.1 hP 1 rfl rfl 0 (by decide) (hts (.fieldLink RX12 285 "ClauseBook$Tape" "size" "I") (List.mem_of_getElem? (i := 2) rfl)) (fun _ h9 => h9) rfl dX12_feed_16 ?_
      refine lv_iload_n hx hb dX12_feed_19 rfl (lv_at hl 1 rfl) ?_
      refine lv_iadd hx hb dX12_feed_20 ?_
      refine lv_topi (fun z_20 ez_20 => ?_)
      obtain rfl : z_20 = 3 := ez_20.trans (by decide)
      refine lv_bipush (v := 120) hx hb dX12_feed_21 (by decide) ?_
      refine lv_icmp_le (tgt := 29) hx hb dX12_feed_23 (by decide) (fun _ => ?_) (fun c9 => absurd c9 (by decide))
      refine lv_iconst (v := 0) hx hb dX12_feed_29 (by decide) ?_
      refine lv_istore_n (lv' := [(3, .int 0), (0, .ref h0), (1, .int 3), (2, .int x2)]) hx hb dX12_feed_30 rfl hl (by decide) rfl (fun ls hl => ?_)
      refine lv_iload_n hx hb dX12_feed_31 rfl (lv_at hl 0 rfl) ?_
      refine lv_iload_n hx hb dX12_feed_32 rfl (lv_at hl 2 rfl) ?_
      refine lv_icmp_ge (tgt := 62) hx hb dX12_feed_33 (by decide) (fun c9 => absurd c9 (by decide)) (fun _ => ?_)
      refine lv_aload_n hx hb dX12_feed_36 rfl (lv_at hl 1 rfl) ?_
      refine va_get (D := D) (ci := 9) (v := .ref h1) (C := RX12) (T := TX12) (N := 11) hx hb hts in_X12_feed_X12 hown hE.1 hP 0 rfl rfl 8 (by decide) (hts (.fieldLink RX12 59 "ClauseBook" "tape" "LClauseBook$Tape;") (List.mem_of_getElem? (i := 1) rfl)) (fun _ h9 => h9) e0_8 dX12_feed_37 ?_
      refine lv_iload_n hx hb dX12_feed_40 rfl (lv_at hl 3 rfl) ?_
      refine lv_bipush (v := 24) hx hb dX12_feed_41 (by decide) ?_
      refine lv_bipush (v := 8) hx hb dX12_feed_43 (by decide) ?_
      refine lv_iload_n hx hb dX12_feed_45 rfl (lv_at hl 0 rfl) ?_
      refine lv_imul hx hb dX12_feed_46 ?_
      refine lv_topi (fun z_21 ez_21 => ?_)
      obtain rfl : z_21 = 0 := ez_21.trans (by decide)
      refine lv_isub hx hb dX12_feed_47 ?_
      refine lv_topi (fun z_22 ez_22 => ?_)
      obtain rfl : z_22 = 24 := ez_22.trans (by decide)
      obtain ⟨z_23, ez_23⟩ : ∃ y : Int32, (x2.toUInt32 >>> ((24 : Int32).toUInt32 &&& Int32.toUInt32 31)).toInt32 = y := ⟨_, rfl⟩
      refine lv_iushr (v := z_23) hx hb dX12_feed_48 ez_23 ?_
      refine lv_sipush (v := 255) hx hb dX12_feed_49 (by decide) ?_
      refine lv_iand hx hb dX12_feed_52 ?_
      have hFc := va_free (wc := [(h1, .inr (7, [.int 0, .ref h2, v2, v3, .int m4, .int m5, .int m6])), (h2, .inl (T 0, 120, .inl f))]) hD hS hA [1, 2] rfl
      refine va_callv (va_runV (As := [.int (z_23 &&& 255)]) (rest := []) ⟨hx, hb, hml, hown, hts⟩ (c_X10_append l D T _ h1 h2 0 1 (v2) (v3) m4 m5 m6 f (z_23 &&& 255) (by unfold vp_in; decide) (by decide) (by decide)) (cwV 1 hts gX12_feed_X10_append rfl rfl rfl (by decide +kernel) ⟨Nat.le_of_ble_eq_true rfl, Nat.le_of_ble_eq_true rfl⟩) (pW_V (ci := 7) (q0 := 1) hP hE hD rfl rfl [1, 2] (by decide) rfl rfl) rfl rfl hl.1 rfl (lv_room (Nat.le_of_ble_eq_true rfl)) dX12_feed_53 ⟨Nat.le_of_ble_eq_true rfl, Nat.le_of_ble_eq_true rfl⟩) hS (fun q _ h => hFc q h) hFc (fun u_25 t H1 locs ht hvm hr_24 hB hz1 hk1 hS => ?_)
      obtain ⟨hP1, hD1⟩ := hB
      rw [ht] at hP1
      obtain ⟨hP, hD⟩ := va_join (wr := [(h0, .inr (9, fs0))]) (w1 := [(h1, .inr (7, [.int 1, .ref h2, v2, v3, .int m4, .int m5, .int m6])), (h2, .inl (T 0, 120, .inl u_25))]) hP hD [1, 2] [0] rfl rfl (by decide) (by decide) hk1 hFc hP1 hD1
      clear hP1 hD1 hFc
      generalize H1 = H at hP hS ⊢
      have hP : va_P D vwCl [(h0, .inr (9, fs0)), (h1, .inr (7, [.int 1, .ref h2, v2, v3, .int m4, .int m5, .int m6])), (h2, .inl (T 0, 120, .inl u_25))] H := hP
      have hD : va_D A [(h0, .inr (9, fs0)), (h1, .inr (7, [.int 1, .ref h2, v2, v3, .int m4, .int m5, .int m6])), (h2, .inl (T 0, 120, .inl u_25))] := hD
      refine lv_iinc (v := 1) (lv' := [(3, .int 1), (0, .ref h0), (1, .int 3), (2, .int x2)]) hx hb dX12_feed_56 hl (k := 0) rfl (by decide) (by decide) rfl (fun ls hl => ?_)
      refine lv_goto (tgt := 31) hx hb dX12_feed_59 (by decide) ?_
      refine lv_iload_n hx hb dX12_feed_31 rfl (lv_at hl 0 rfl) ?_
      refine lv_iload_n hx hb dX12_feed_32 rfl (lv_at hl 2 rfl) ?_
      refine lv_icmp_ge (tgt := 62) hx hb dX12_feed_33 (by decide) (fun c9 => absurd c9 (by decide)) (fun _ => ?_)
      refine lv_aload_n hx hb dX12_feed_36 rfl (lv_at hl 1 rfl) ?_
      refine va_get (D := D) (ci := 9) (v := .ref h1) (C := RX12) (T := TX12) (N := 11) hx hb hts in_X12_feed_X12 hown hE.1 hP 0 rfl rfl 8 (by decide) (hts (.fieldLink RX12 59 "ClauseBook" "tape" "LClauseBook$Tape;") (List.mem_of_getElem? (i := 1) rfl)) (fun _ h9 => h9) e0_8 dX12_feed_37 ?_
      refine lv_iload_n hx hb dX12_feed_40 rfl (lv_at hl 3 rfl) ?_
      refine lv_bipush (v := 24) hx hb dX12_feed_41 (by decide) ?_
      refine lv_bipush (v := 8) hx hb dX12_feed_43 (by decide) ?_
      refine lv_iload_n hx hb dX12_feed_45 rfl (lv_at hl 0 rfl) ?_
      refine lv_imul hx hb dX12_feed_46 ?_
      refine lv_topi (fun z_26 ez_26 => ?_)
      obtain rfl : z_26 = 8 := ez_26.trans (by decide)
      refine lv_isub hx hb dX12_feed_47 ?_
      refine lv_topi (fun z_27 ez_27 => ?_)
      obtain rfl : z_27 = 16 := ez_27.trans (by decide)
      obtain ⟨z_28, ez_28⟩ : ∃ y : Int32, (x2.toUInt32 >>> ((16 : Int32).toUInt32 &&& Int32.toUInt32 31)).toInt32 = y := ⟨_, rfl⟩
      refine lv_iushr (v := z_28) hx hb dX12_feed_48 ez_28 ?_
      refine lv_sipush (v := 255) hx hb dX12_feed_49 (by decide) ?_
      refine lv_iand hx hb dX12_feed_52 ?_
      have hFc := va_free (wc := [(h1, .inr (7, [.int 1, .ref h2, v2, v3, .int m4, .int m5, .int m6])), (h2, .inl (T 0, 120, .inl u_25))]) hD hS hA [1, 2] rfl
      refine va_callv (va_runV (As := [.int (z_28 &&& 255)]) (rest := []) ⟨hx, hb, hml, hown, hts⟩ (c_X10_append l D T _ h1 h2 1 2 (v2) (v3) m4 m5 m6 u_25 (z_28 &&& 255) (by unfold vp_in; decide) (by decide) (by decide)) (cwV 1 hts gX12_feed_X10_append rfl rfl rfl (by decide +kernel) ⟨Nat.le_of_ble_eq_true rfl, Nat.le_of_ble_eq_true rfl⟩) (pW_V (ci := 7) (q0 := 1) hP hE hD rfl rfl [1, 2] (by decide) rfl rfl) rfl rfl hl.1 rfl (lv_room (Nat.le_of_ble_eq_true rfl)) dX12_feed_53 ⟨Nat.le_of_ble_eq_true rfl, Nat.le_of_ble_eq_true rfl⟩) hS (fun q _ h => hFc q h) hFc (fun u_30 t H1 locs ht hvm hr_29 hB hz1 hk1 hS => ?_)
      obtain ⟨hP1, hD1⟩ := hB
      rw [ht] at hP1
      obtain ⟨hP, hD⟩ := va_join (wr := [(h0, .inr (9, fs0))]) (w1 := [(h1, .inr (7, [.int 2, .ref h2, v2, v3, .int m4, .int m5, .int m6])), (h2, .inl (T 0, 120, .inl u_30))]) hP hD [1, 2] [0] rfl rfl (by decide) (by decide) hk1 hFc hP1 hD1
      clear hP1 hD1 hFc
      generalize H1 = H at hP hS ⊢
      have hP : va_P D vwCl [(h0, .inr (9, fs0)), (h1, .inr (7, [.int 2, .ref h2, v2, v3, .int m4, .int m5, .int m6])), (h2, .inl (T 0, 120, .inl u_30))] H := hP
      have hD : va_D A [(h0, .inr (9, fs0)), (h1, .inr (7, [.int 2, .ref h2, v2, v3, .int m4, .int m5, .int m6])), (h2, .inl (T 0, 120, .inl u_30))] := hD
      refine lv_iinc (v := 2) (lv' := [(3, .int 2), (0, .ref h0), (1, .int 3), (2, .int x2)]) hx hb dX12_feed_56 hl (k := 0) rfl (by decide) (by decide) rfl (fun ls hl => ?_)
      refine lv_goto (tgt := 31) hx hb dX12_feed_59 (by decide) ?_
      refine lv_iload_n hx hb dX12_feed_31 rfl (lv_at hl 0 rfl) ?_
      refine lv_iload_n hx hb dX12_feed_32 rfl (lv_at hl 2 rfl) ?_
      refine lv_icmp_ge (tgt := 62) hx hb dX12_feed_33 (by decide) (fun c9 => absurd c9 (by decide)) (fun _ => ?_)
      refine lv_aload_n hx hb dX12_feed_36 rfl (lv_at hl 1 rfl) ?_
      refine va_get (D := D) (ci := 9) (v := .ref h1) (C := RX12) (T := TX12) (N := 11) hx hb hts in_X12_feed_X12 hown hE.1 hP 0 rfl rfl 8 (by decide) (hts (.fieldLink RX12 59 "ClauseBook" "tape" "LClauseBook$Tape;") (List.mem_of_getElem? (i := 1) rfl)) (fun _ h9 => h9) e0_8 dX12_feed_37 ?_
      refine lv_iload_n hx hb dX12_feed_40 rfl (lv_at hl 3 rfl) ?_
      refine lv_bipush (v := 24) hx hb dX12_feed_41 (by decide) ?_
      refine lv_bipush (v := 8) hx hb dX12_feed_43 (by decide) ?_
      refine lv_iload_n hx hb dX12_feed_45 rfl (lv_at hl 0 rfl) ?_
      refine lv_imul hx hb dX12_feed_46 ?_
      refine lv_topi (fun z_31 ez_31 => ?_)
      obtain rfl : z_31 = 16 := ez_31.trans (by decide)
      refine lv_isub hx hb dX12_feed_47 ?_
      refine lv_topi (fun z_32 ez_32 => ?_)
      obtain rfl : z_32 = 8 := ez_32.trans (by decide)
      obtain ⟨z_33, ez_33⟩ : ∃ y : Int32, (x2.toUInt32 >>> ((8 : Int32).toUInt32 &&& Int32.toUInt32 31)).toInt32 = y := ⟨_, rfl⟩
      refine lv_iushr (v := z_33) hx hb dX12_feed_48 ez_33 ?_
      refine lv_sipush (v := 255) hx hb dX12_feed_49 (by decide) ?_
      refine lv_iand hx hb dX12_feed_52 ?_
      have hFc := va_free (wc := [(h1, .inr (7, [.int 2, .ref h2, v2, v3, .int m4, .int m5, .int m6])), (h2, .inl (T 0, 120, .inl u_30))]) hD hS hA [1, 2] rfl
      refine va_callv (va_runV (As := [.int (z_33 &&& 255)]) (rest := []) ⟨hx, hb, hml, hown, hts⟩ (c_X10_append l D T _ h1 h2 2 3 (v2) (v3) m4 m5 m6 u_30 (z_33 &&& 255) (by unfold vp_in; decide) (by decide) (by decide)) (cwV 1 hts gX12_feed_X10_append rfl rfl rfl (by decide +kernel) ⟨Nat.le_of_ble_eq_true rfl, Nat.le_of_ble_eq_true rfl⟩) (pW_V (ci := 7) (q0 := 1) hP hE hD rfl rfl [1, 2] (by decide) rfl rfl) rfl rfl hl.1 rfl (lv_room (Nat.le_of_ble_eq_true rfl)) dX12_feed_53 ⟨Nat.le_of_ble_eq_true rfl, Nat.le_of_ble_eq_true rfl⟩) hS (fun q _ h => hFc q h) hFc (fun u_35 t H1 locs ht hvm hr_34 hB hz1 hk1 hS => ?_)
      obtain ⟨hP1, hD1⟩ := hB
      rw [ht] at hP1
      obtain ⟨hP, hD⟩ := va_join (wr := [(h0, .inr (9, fs0))]) (w1 := [(h1, .inr (7, [.int 3, .ref h2, v2, v3, .int m4, .int m5, .int m6])), (h2, .inl (T 0, 120, .inl u_35))]) hP hD [1, 2] [0] rfl rfl (by decide) (by decide) hk1 hFc hP1 hD1
      clear hP1 hD1 hFc
      generalize H1 = H at hP hS ⊢
      have hP : va_P D vwCl [(h0, .inr (9, fs0)), (h1, .inr (7, [.int 3, .ref h2, v2, v3, .int m4, .int m5, .int m6])), (h2, .inl (T 0, 120, .inl u_35))] H := hP
      have hD : va_D A [(h0, .inr (9, fs0)), (h1, .inr (7, [.int 3, .ref h2, v2, v3, .int m4, .int m5, .int m6])), (h2, .inl (T 0, 120, .inl u_35))] := hD
      refine lv_iinc (v := 3) (lv' := [(3, .int 3), (0, .ref h0), (1, .int 3), (2, .int x2)]) hx hb dX12_feed_56 hl (k := 0) rfl (by decide) (by decide) rfl (fun ls hl => ?_)
      refine lv_goto (tgt := 31) hx hb dX12_feed_59 (by decide) ?_
      refine lv_iload_n hx hb dX12_feed_31 rfl (lv_at hl 0 rfl) ?_
      refine lv_iload_n hx hb dX12_feed_32 rfl (lv_at hl 2 rfl) ?_
      refine lv_icmp_ge (tgt := 62) hx hb dX12_feed_33 (by decide) (fun _ => ?_) (fun c9 => absurd c9 (by decide))
      refine lv_aload_n hx hb dX12_feed_62 rfl (lv_at hl 1 rfl) ?_
      refine va_get (D := D) (ci := 9) (v := .ref h1) (C := RX12) (T := TX12) (N := 11) hx hb hts in_X12_feed_X12 hown hE.1 hP 0 rfl rfl 8 (by decide) (hts (.fieldLink RX12 59 "ClauseBook" "tape" "LClauseBook$Tape;") (List.mem_of_getElem? (i := 1) rfl)) (fun _ h9 => h9) e0_8 dX12_feed_63 ?_
      refine va_get (D := D) (ci := 7) (v := .int 3) (C := RX10) (T := TX10) (N := 7) hx hb hts in_X12_feed_X10 hown hE.1 hP 1 rfl rfl 0 (by decide) (hts (.fieldLink RX12 285 "ClauseBook$Tape" "size" "I") (List.mem_of_getElem? (i := 2) rfl)) (fun _ h9 => h9) rfl dX12_feed_66 ?_
      exact W.iret hx hb hr (fun t ht hW => ⟨⟨_, (), rfl, (by first | decide | (unfold sp_feed; (repeat' split) <;> first | rfl | (exfalso; omega))), by rw [ht]; exact hP.sub [] rfl, hD.sub [] (by decide) rfl⟩, hS.F ht⟩) hS.2.2 dX12_feed_69
    · refine lv_aload_n hx hb dX12_feed_12 rfl (lv_at hl 0 rfl) ?_
      refine va_get (D := D) (ci := 9) (v := .ref h1) (C := RX12) (T := TX12) (N := 11) hx hb hts in_X12_feed_X12 hown hE.1 hP 0 rfl rfl 8 (by decide) (hts (.fieldLink RX12 59 "ClauseBook" "tape" "LClauseBook$Tape;") (List.mem_of_getElem? (i := 1) rfl)) (fun _ h9 => h9) e0_8 dX12_feed_13 ?_
      refine va_get (D := D) (ci := 7) (v := .int 0) (C := RX10) (T := TX10) (N := 7) hx hb hts in_X12_feed_X10 hown hE.1 hP 1 rfl rfl 0 (by decide) (hts (.fieldLink RX12 285 "ClauseBook$Tape" "size" "I") (List.mem_of_getElem? (i := 2) rfl)) (fun _ h9 => h9) rfl dX12_feed_16 ?_
      refine lv_iload_n hx hb dX12_feed_19 rfl (lv_at hl 1 rfl) ?_
      refine lv_iadd hx hb dX12_feed_20 ?_
      refine lv_topi (fun z_36 ez_36 => ?_)
      obtain rfl : z_36 = 4 := ez_36.trans (by decide)
      refine lv_bipush (v := 120) hx hb dX12_feed_21 (by decide) ?_
      refine lv_icmp_le (tgt := 29) hx hb dX12_feed_23 (by decide) (fun _ => ?_) (fun c9 => absurd c9 (by decide))
      refine lv_iconst (v := 0) hx hb dX12_feed_29 (by decide) ?_
      refine lv_istore_n (lv' := [(3, .int 0), (0, .ref h0), (1, .int 4), (2, .int x2)]) hx hb dX12_feed_30 rfl hl (by decide) rfl (fun ls hl => ?_)
      refine lv_iload_n hx hb dX12_feed_31 rfl (lv_at hl 0 rfl) ?_
      refine lv_iload_n hx hb dX12_feed_32 rfl (lv_at hl 2 rfl) ?_
      refine lv_icmp_ge (tgt := 62) hx hb dX12_feed_33 (by decide) (fun c9 => absurd c9 (by decide)) (fun _ => ?_)
      refine lv_aload_n hx hb dX12_feed_36 rfl (lv_at hl 1 rfl) ?_
      refine va_get (D := D) (ci := 9) (v := .ref h1) (C := RX12) (T := TX12) (N := 11) hx hb hts in_X12_feed_X12 hown hE.1 hP 0 rfl rfl 8 (by decide) (hts (.fieldLink RX12 59 "ClauseBook" "tape" "LClauseBook$Tape;") (List.mem_of_getElem? (i := 1) rfl)) (fun _ h9 => h9) e0_8 dX12_feed_37 ?_
      refine lv_iload_n hx hb dX12_feed_40 rfl (lv_at hl 3 rfl) ?_
      refine lv_bipush (v := 24) hx hb dX12_feed_41 (by decide) ?_
      refine lv_bipush (v := 8) hx hb dX12_feed_43 (by decide) ?_
      refine lv_iload_n hx hb dX12_feed_45 rfl (lv_at hl 0 rfl) ?_
      refine lv_imul hx hb dX12_feed_46 ?_
      refine lv_topi (fun z_37 ez_37 => ?_)
      obtain rfl : z_37 = 0 := ez_37.trans (by decide)
      refine lv_isub hx hb dX12_feed_47 ?_
      refine lv_topi (fun z_38 ez_38 => ?_)
      obtain rfl : z_38 = 24 := ez_38.trans (by decide)
      obtain ⟨z_39, ez_39⟩ : ∃ y : Int32, (x2.toUInt32 >>> ((24 : Int32).toUInt32 &&& Int32.toUInt32 31)).toInt32 = y := ⟨_, rfl⟩
      refine lv_iushr (v := z_39) hx hb dX12_feed_48 ez_39 ?_
      refine lv_sipush (v := 255) hx hb dX12_feed_49 (by decide) ?_
      refine lv_iand hx hb dX12_feed_52 ?_
      have hFc := va_free (wc := [(h1, .inr (7, [.int 0, .ref h2, v2, v3, .int m4, .int m5, .int m6])), (h2, .inl (T 0, 120, .inl f))]) hD hS hA [1, 2] rfl
      refine va_callv (va_runV (As := [.int (z_39 &&& 255)]) (rest := []) ⟨hx, hb, hml, hown, hts⟩ (c_X10_append l D T _ h1 h2 0 1 (v2) (v3) m4 m5 m6 f (z_39 &&& 255) (by unfold vp_in; decide) (by decide) (by decide)) (cwV 1 hts gX12_feed_X10_append rfl rfl rfl (by decide +kernel) ⟨Nat.le_of_ble_eq_true rfl, Nat.le_of_ble_eq_true rfl⟩) (pW_V (ci := 7) (q0 := 1) hP hE hD rfl rfl [1, 2] (by decide) rfl rfl) rfl rfl hl.1 rfl (lv_room (Nat.le_of_ble_eq_true rfl)) dX12_feed_53 ⟨Nat.le_of_ble_eq_true rfl, Nat.le_of_ble_eq_true rfl⟩) hS (fun q _ h => hFc q h) hFc (fun u_41 t H1 locs ht hvm hr_40 hB hz1 hk1 hS => ?_)
      obtain ⟨hP1, hD1⟩ := hB
      rw [ht] at hP1
      obtain ⟨hP, hD⟩ := va_join (wr := [(h0, .inr (9, fs0))]) (w1 := [(h1, .inr (7, [.int 1, .ref h2, v2, v3, .int m4, .int m5, .int m6])), (h2, .inl (T 0, 120, .inl u_41))]) hP hD [1, 2] [0] rfl rfl (by decide) (by decide) hk1 hFc hP1 hD1
      clear hP1 hD1 hFc
      generalize H1 = H at hP hS ⊢
      have hP : va_P D vwCl [(h0, .inr (9, fs0)), (h1, .inr (7, [.int 1, .ref h2, v2, v3, .int m4, .int m5, .int m6])), (h2, .inl (T 0, 120, .inl u_41))] H := hP
      have hD : va_D A [(h0, .inr (9, fs0)), (h1, .inr (7, [.int 1, .ref h2, v2, v3, .int m4, .int m5, .int m6])), (h2, .inl (T 0, 120, .inl u_41))] := hD
      refine lv_iinc (v := 1) (lv' := [(3, .int 1), (0, .ref h0), (1, .int 4), (2, .int x2)]) hx hb dX12_feed_56 hl (k := 0) rfl (by decide) (by decide) rfl (fun ls hl => ?_)
      refine lv_goto (tgt := 31) hx hb dX12_feed_59 (by decide) ?_
      refine lv_iload_n hx hb dX12_feed_31 rfl (lv_at hl 0 rfl) ?_
      refine lv_iload_n hx hb dX12_feed_32 rfl (lv_at hl 2 rfl) ?_
      refine lv_icmp_ge (tgt := 62) hx hb dX12_feed_33 (by decide) (fun c9 => absurd c9 (by decide)) (fun _ => ?_)
      refine lv_aload_n hx hb dX12_feed_36 rfl (lv_at hl 1 rfl) ?_
      refine va_get (D := D) (ci := 9) (v := .ref h1) (C := RX12) (T := TX12) (N := 11) hx hb hts in_X12_feed_X12 hown hE.1 hP 0 rfl rfl 8 (by decide) (hts (.fieldLink RX12 59 "ClauseBook" "tape" "LClauseBook$Tape;") (List.mem_of_getElem? (i := 1) rfl)) (fun _ h9 => h9) e0_8 dX12_feed_37 ?_
      refine lv_iload_n hx hb dX12_feed_40 rfl (lv_at hl 3 rfl) ?_
      refine lv_bipush (v := 24) hx hb dX12_feed_41 (by decide) ?_
      refine lv_bipush (v := 8) hx hb dX12_feed_43 (by decide) ?_
      refine lv_iload_n hx hb dX12_feed_45 rfl (lv_at hl 0 rfl) ?_
      refine lv_imul hx hb dX12_feed_46 ?_
      refine lv_topi (fun z_42 ez_42 => ?_)
      obtain rfl : z_42 = 8 := ez_42.trans (by decide)
      refine lv_isub hx hb dX12_feed_47 ?_
      refine lv_topi (fun z_43 ez_43 => ?_)
      obtain rfl : z_43 = 16 := ez_43.trans (by decide)
      obtain ⟨z_44, ez_44⟩ : ∃ y : Int32, (x2.toUInt32 >>> ((16 : Int32).toUInt32 &&& Int32.toUInt32 31)).toInt32 = y := ⟨_, rfl⟩
      refine lv_iushr (v := z_44) hx hb dX12_feed_48 ez_44 ?_
      refine lv_sipush (v := 255) hx hb dX12_feed_49 (by decide) ?_
      refine lv_iand hx hb dX12_feed_52 ?_
      have hFc := va_free (wc := [(h1, .inr (7, [.int 1, .ref h2, v2, v3, .int m4, .int m5, .int m6])), (h2, .inl (T 0, 120, .inl u_41))]) hD hS hA [1, 2] rfl
      refine va_callv (va_runV (As := [.int (z_44 &&& 255)]) (rest := []) ⟨hx, hb, hml, hown, hts⟩ (c_X10_append l D T _ h1 h2 1 2 (v2) (v3) m4 m5 m6 u_41 (z_44 &&& 255) (by unfold vp_in; decide) (by decide) (by decide)) (cwV 1 hts gX12_feed_X10_append rfl rfl rfl (by decide +kernel) ⟨Nat.le_of_ble_eq_true rfl, Nat.le_of_ble_eq_true rfl⟩) (pW_V (ci := 7) (q0 := 1) hP hE hD rfl rfl [1, 2] (by decide) rfl rfl) rfl rfl hl.1 rfl (lv_room (Nat.le_of_ble_eq_true rfl)) dX12_feed_53 ⟨Nat.le_of_ble_eq_true rfl, Nat.le_of_ble_eq_true rfl⟩) hS (fun q _ h => hFc q h) hFc (fun u_46 t H1 locs ht hvm hr_45 hB hz1 hk1 hS => ?_)
      obtain ⟨hP1, hD1⟩ := hB
      rw [ht] at hP1
      obtain ⟨hP, hD⟩ := va_join (wr := [(h0, .inr (9, fs0))]) (w1 := [(h1, .inr (7, [.int 2, .ref h2, v2, v3, .int m4, .int m5, .int m6])), (h2, .inl (T 0, 120, .inl u_46))]) hP hD [1, 2] [0] rfl rfl (by decide) (by decide) hk1 hFc hP1 hD1
      clear hP1 hD1 hFc
      generalize H1 = H at hP hS ⊢
      have hP : va_P D vwCl [(h0, .inr (9, fs0)), (h1, .inr (7, [.int 2, .ref h2, v2, v3, .int m4, .int m5, .int m6])), (h2, .inl (T 0, 120, .inl u_46))] H := hP
      have hD : va_D A [(h0, .inr (9, fs0)), (h1, .inr (7, [.int 2, .ref h2, v2, v3, .int m4, .int m5, .int m6])), (h2, .inl (T 0, 120, .inl u_46))] := hD
      refine lv_iinc (v := 2) (lv' := [(3, .int 2), (0, .ref h0), (1, .int 4), (2, .int x2)]) hx hb dX12_feed_56 hl (k := 0) rfl (by decide) (by decide) rfl (fun ls hl => ?_)
      refine lv_goto (tgt := 31) hx hb dX12_feed_59 (by decide) ?_
      refine lv_iload_n hx hb dX12_feed_31 rfl (lv_at hl 0 rfl) ?_
      refine lv_iload_n hx hb dX12_feed_32 rfl (lv_at hl 2 rfl) ?_
      refine lv_icmp_ge (tgt := 62) hx hb dX12_feed_33 (by decide) (fun c9 => absurd c9 (by decide)) (fun _ => ?_)
      refine lv_aload_n hx hb dX12_feed_36 rfl (lv_at hl 1 rfl) ?_
      refine va_get (D := D) (ci := 9) (v := .ref h1) (C := RX12) (T := TX12) (N := 11) hx hb hts in_X12_feed_X12 hown hE.1 hP 0 rfl rfl 8 (by decide) (hts (.fieldLink RX12 59 "ClauseBook" "tape" "LClauseBook$Tape;") (List.mem_of_getElem? (i := 1) rfl)) (fun _ h9 => h9) e0_8 dX12_feed_37 ?_
      refine lv_iload_n hx hb dX12_feed_40 rfl (lv_at hl 3 rfl) ?_
      refine lv_bipush (v := 24) hx hb dX12_feed_41 (by decide) ?_
      refine lv_bipush (v := 8) hx hb dX12_feed_43 (by decide) ?_
      refine lv_iload_n hx hb dX12_feed_45 rfl (lv_at hl 0 rfl) ?_
      refine lv_imul hx hb dX12_feed_46 ?_
      refine lv_topi (fun z_47 ez_47 => ?_)
      obtain rfl : z_47 = 16 := ez_47.trans (by decide)
      refine lv_isub hx hb dX12_feed_47 ?_
      refine lv_topi (fun z_48 ez_48 => ?_)
      obtain rfl : z_48 = 8 := ez_48.trans (by decide)
      obtain ⟨z_49, ez_49⟩ : ∃ y : Int32, (x2.toUInt32 >>> ((8 : Int32).toUInt32 &&& Int32.toUInt32 31)).toInt32 = y := ⟨_, rfl⟩
      refine lv_iushr (v := z_49) hx hb dX12_feed_48 ez_49 ?_
      refine lv_sipush (v := 255) hx hb dX12_feed_49 (by decide) ?_
      refine lv_iand hx hb dX12_feed_52 ?_
      have hFc := va_free (wc := [(h1, .inr (7, [.int 2, .ref h2, v2, v3, .int m4, .int m5, .int m6])), (h2, .inl (T 0, 120, .inl u_46))]) hD hS hA [1, 2] rfl
      refine va_callv (va_runV (As := [.int (z_49 &&& 255)]) (rest := []) ⟨hx, hb, hml, hown, hts⟩ (c_X10_append l D T _ h1 h2 2 3 (v2) (v3) m4 m5 m6 u_46 (z_49 &&& 255) (by unfold vp_in; decide) (by decide) (by decide)) (cwV 1 hts gX12_feed_X10_append rfl rfl rfl (by decide +kernel) ⟨Nat.le_of_ble_eq_true rfl, Nat.le_of_ble_eq_true rfl⟩) (pW_V (ci := 7) (q0 := 1) hP hE hD rfl rfl [1, 2] (by decide) rfl rfl) rfl rfl hl.1 rfl (lv_room (Nat.le_of_ble_eq_true rfl)) dX12_feed_53 ⟨Nat.le_of_ble_eq_true rfl, Nat.le_of_ble_eq_true rfl⟩) hS (fun q _ h => hFc q h) hFc (fun u_51 t H1 locs ht hvm hr_50 hB hz1 hk1 hS => ?_)
      obtain ⟨hP1, hD1⟩ := hB
      rw [ht] at hP1
      obtain ⟨hP, hD⟩ := va_join (wr := [(h0, .inr (9, fs0))]) (w1 := [(h1, .inr (7, [.int 3, .ref h2, v2, v3, .int m4, .int m5, .int m6])), (h2, .inl (T 0, 120, .inl u_51))]) hP hD [1, 2] [0] rfl rfl (by decide) (by decide) hk1 hFc hP1 hD1
      clear hP1 hD1 hFc
      generalize H1 = H at hP hS ⊢
      have hP : va_P D vwCl [(h0, .inr (9, fs0)), (h1, .inr (7, [.int 3, .ref h2, v2, v3, .int m4, .int m5, .int m6])), (h2, .inl (T 0, 120, .inl u_51))] H := hP
      have hD : va_D A [(h0, .inr (9, fs0)), (h1, .inr (7, [.int 3, .ref h2, v2, v3, .int m4, .int m5, .int m6])), (h2, .inl (T 0, 120, .inl u_51))] := hD
      refine lv_iinc (v := 3) (lv' := [(3, .int 3), (0, .ref h0), (1, .int 4), (2, .int x2)]) hx hb dX12_feed_56 hl (k := 0) rfl (by decide) (by decide) rfl (fun ls hl => ?_)
      refine lv_goto (tgt := 31) hx hb dX12_feed_59 (by decide) ?_
      refine lv_iload_n hx hb dX12_feed_31 rfl (lv_at hl 0 rfl) ?_
      refine lv_iload_n hx hb dX12_feed_32 rfl (lv_at hl 2 rfl) ?_
      refine lv_icmp_ge (tgt := 62) hx hb dX12_feed_33 (by decide) (fun c9 => absurd c9 (by decide)) (fun _ => ?_)
      refine lv_aload_n hx hb dX12_feed_36 rfl (lv_at hl 1 rfl) ?_
      refine va_get (D := D) (ci := 9) (v := .ref h1) (C := RX12) (T := TX12) (N := 11) hx hb hts in_X12_feed_X12 hown hE.1 hP 0 rfl rfl 8 (by decide) (hts (.fieldLink RX12 59 "ClauseBook" "tape" "LClauseBook$Tape;") (List.mem_of_getElem? (i := 1) rfl)) (fun _ h9 => h9) e0_8 dX12_feed_37 ?_
      refine lv_iload_n hx hb dX12_feed_40 rfl (lv_at hl 3 rfl) ?_
      refine lv_bipush (v := 24) hx hb dX12_feed_41 (by decide) ?_
      refine lv_bipush (v := 8) hx hb dX12_feed_43 (by decide) ?_
      refine lv_iload_n hx hb dX12_feed_45 rfl (lv_at hl 0 rfl) ?_
      refine lv_imul hx hb dX12_feed_46 ?_
      refine lv_topi (fun z_52 ez_52 => ?_)
      obtain rfl : z_52 = 24 := ez_52.trans (by decide)
      refine lv_isub hx hb dX12_feed_47 ?_
      refine lv_topi (fun z_53 ez_53 => ?_)
      obtain rfl : z_53 = 0 := ez_53.trans (by decide)
      obtain ⟨z_54, ez_54⟩ : ∃ y : Int32, (x2.toUInt32 >>> ((0 : Int32).toUInt32 &&& Int32.toUInt32 31)).toInt32 = y := ⟨_, rfl⟩
      refine lv_iushr (v := z_54) hx hb dX12_feed_48 ez_54 ?_
      refine lv_sipush (v := 255) hx hb dX12_feed_49 (by decide) ?_
      refine lv_iand hx hb dX12_feed_52 ?_
      have hFc := va_free (wc := [(h1, .inr (7, [.int 3, .ref h2, v2, v3, .int m4, .int m5, .int m6])), (h2, .inl (T 0, 120, .inl u_51))]) hD hS hA [1, 2] rfl
      refine va_callv (va_runV (As := [.int (z_54 &&& 255)]) (rest := []) ⟨hx, hb, hml, hown, hts⟩ (c_X10_append l D T _ h1 h2 3 4 (v2) (v3) m4 m5 m6 u_51 (z_54 &&& 255) (by unfold vp_in; decide) (by decide) (by decide)) (cwV 1 hts gX12_feed_X10_append rfl rfl rfl (by decide +kernel) ⟨Nat.le_of_ble_eq_true rfl, Nat.le_of_ble_eq_true rfl⟩) (pW_V (ci := 7) (q0 := 1) hP hE hD rfl rfl [1, 2] (by decide) rfl rfl) rfl rfl hl.1 rfl (lv_room (Nat.le_of_ble_eq_true rfl)) dX12_feed_53 ⟨Nat.le_of_ble_eq_true rfl, Nat.le_of_ble_eq_true rfl⟩) hS (fun q _ h => hFc q h) hFc (fun u_56 t H1 locs ht hvm hr_55 hB hz1 hk1 hS => ?_)
      obtain ⟨hP1, hD1⟩ := hB
      rw [ht] at hP1
      obtain ⟨hP, hD⟩ := va_join (wr := [(h0, .inr (9, fs0))]) (w1 := [(h1, .inr (7, [.int 4, .ref h2, v2, v3, .int m4, .int m5, .int m6])), (h2, .inl (T 0, 120, .inl u_56))]) hP hD [1, 2] [0] rfl rfl (by decide) (by decide) hk1 hFc hP1 hD1
      clear hP1 hD1 hFc
      generalize H1 = H at hP hS ⊢
      have hP : va_P D vwCl [(h0, .inr (9, fs0)), (h1, .inr (7, [.int 4, .ref h2, v2, v3, .int m4, .int m5, .int m6])), (h2, .inl (T 0, 120, .inl u_56))] H := hP
      have hD : va_D A [(h0, .inr (9, fs0)), (h1, .inr (7, [.int 4, .ref h2, v2, v3, .int m4, .int m5, .int m6])), (h2, .inl (T 0, 120, .inl u_56))] := hD
      refine lv_iinc (v := 4) (lv' := [(3, .int 4), (0, .ref h0), (1, .int 4), (2, .int x2)]) hx hb dX12_feed_56 hl (k := 0) rfl (by decide) (by decide) rfl (fun ls hl => ?_)
      refine lv_goto (tgt := 31) hx hb dX12_feed_59 (by decide) ?_
      refine lv_iload_n hx hb dX12_feed_31 rfl (lv_at hl 0 rfl) ?_
      refine lv_iload_n hx hb dX12_feed_32 rfl (lv_at hl 2 rfl) ?_
      refine lv_icmp_ge (tgt := 62) hx hb dX12_feed_33 (by decide) (fun _ => ?_) (fun c9 => absurd c9 (by decide))
      refine lv_aload_n hx hb dX12_feed_62 rfl (lv_at hl 1 rfl) ?_
      refine va_get (D := D) (ci := 9) (v := .ref h1) (C := RX12) (T := TX12) (N := 11) hx hb hts in_X12_feed_X12 hown hE.1 hP 0 rfl rfl 8 (by decide) (hts (.fieldLink RX12 59 "ClauseBook" "tape" "LClauseBook$Tape;") (List.mem_of_getElem? (i := 1) rfl)) (fun _ h9 => h9) e0_8 dX12_feed_63 ?_
      refine va_get (D := D) (ci := 7) (v := .int 4) (C := RX10) (T := TX10) (N := 7) hx hb hts in_X12_feed_X10 hown hE.1 hP 1 rfl rfl 0 (by decide) (hts (.fieldLink RX12 285 "ClauseBook$Tape" "size" "I") (List.mem_of_getElem? (i := 2) rfl)) (fun _ h9 => h9) rfl dX12_feed_66 ?_
      exact W.iret hx hb hr (fun t ht hW => ⟨⟨_, (), rfl, (by first | decide | (unfold sp_feed; (repeat' split) <;> first | rfl | (exfalso; omega))), by rw [ht]; exact hP.sub [] rfl, hD.sub [] (by decide) rfl⟩, hS.F ht⟩) hS.2.2 dX12_feed_69
  · refine lv_if_ne (tgt := 12) hx hb dX12_feed_6 (by decide) (fun c9 => absurd c9 (by decide)) (fun _ => ?_)
    refine lv_bipush (v := (-2)) hx hb dX12_feed_9 (by decide) ?_
    exact W.iret hx hb hr (fun t ht hW => ⟨⟨_, (), rfl, (by first | decide | (unfold sp_feed; (repeat' split) <;> first | rfl | (exfalso; omega))), by rw [ht]; exact hP.sub [] rfl, hD.sub [] (by decide) rfl⟩, hS.F ht⟩) hS.2.2 dX12_feed_11
theorem dX10_scan_0 : decode cX10_scan 0 = .ok (.iconst 0, 1) := by decide +kernel
theorem dX10_scan_1 : decode cX10_scan 1 = .ok (.istore_n 2, 1) := by decide +kernel
theorem dX10_scan_12 : decode cX10_scan 12 = .ok (.iconst 0, 1) := by decide +kernel
theorem dX10_scan_13 : decode cX10_scan 13 = .ok (.istore 5, 2) := by decide +kernel
theorem dX10_scan_15 : decode cX10_scan 15 = .ok (.iload 5, 2) := by decide +kernel
theorem dX10_scan_17 : decode cX10_scan 17 = .ok (.bipush 120, 2) := by decide +kernel
theorem dX10_scan_19 : decode cX10_scan 19 = .ok (.if_icmp .ge 212, 3) := by decide +kernel
theorem dX10_scan_2 : decode cX10_scan 2 = .ok (.iconst 1, 1) := by decide +kernel
theorem dX10_scan_22 : decode cX10_scan 22 = .ok (.iload_n 2, 1) := by decide +kernel
theorem dX10_scan_23 : decode cX10_scan 23 = .ok (.aload_n 0, 1) := by decide +kernel
theorem dX10_scan_231 : decode cX10_scan 231 = .ok (.iload_n 3, 1) := by decide +kernel
theorem dX10_scan_232 : decode cX10_scan 232 = .ok (.ifCond .gt 8, 3) := by decide +kernel
theorem dX10_scan_24 : decode cX10_scan 24 = .ok (.getfield 9, 3) := by decide +kernel
theorem dX10_scan_240 : decode cX10_scan 240 = .ok (.aload_n 0, 1) := by decide +kernel
theorem dX10_scan_241 : decode cX10_scan 241 = .ok (.getfield 9, 3) := by decide +kernel
theorem dX10_scan_244 : decode cX10_scan 244 = .ok (.goto 4, 3) := by decide +kernel
theorem dX10_scan_248 : decode cX10_scan 248 = .ok (.ireturn, 1) := by decide +kernel
theorem dX10_scan_27 : decode cX10_scan 27 = .ok (.if_icmp .ge 204, 3) := by decide +kernel
theorem dX10_scan_3 : decode cX10_scan 3 = .ok (.istore_n 3, 1) := by decide +kernel
theorem dX10_scan_4 : decode cX10_scan 4 = .ok (.iconst 0, 1) := by decide +kernel
theorem dX10_scan_5 : decode cX10_scan 5 = .ok (.istore 4, 2) := by decide +kernel
theorem dX10_scan_7 : decode cX10_scan 7 = .ok (.aload_n 0, 1) := by decide +kernel
theorem dX10_scan_8 : decode cX10_scan 8 = .ok (.iconst 0, 1) := by decide +kernel
theorem dX10_scan_9 : decode cX10_scan 9 = .ok (.putfield 25, 3) := by decide +kernel
set_option maxRecDepth 20000 in
theorem in_X10_scan_X10 : ∀ w ∈ wsX100, w ∈ wsX10_scan := by decide +kernel
set_option maxHeartbeats 4000000 in
set_option maxRecDepth 100000 in
theorem f_X10_scan (l : Launch) (D : va_G) (T : Nat → ClassId) (sz : Nat) (h0 : Nat) (v1 : Value) (v2 : Value) (v3 : Value) (m4 : Int32) (m5 : Int32) (m6 : Int32) (x1 : Int32)  : Met l yX10_scan wsX10_scan ({ frames := 0, cells := 0, slots := 0, locals := 0 }) (pW [.ref h0, .int x1] D T [(h0, .inr (7, [.int 0, v1, v2, v3, .int m4, .int m5, .int m6]))] sz) (va_Qi (fun (r : Int32) (u : Unit) => r = 0) (bW D (va_A [(h0, .inr (7, [.int 0, v1, v2, v3, .int m4, .int m5, .int m6]))] sz) (fun (u : Unit) => [(h0, .inr (7, [.int 0, v1, v2, v3, .int 0, .int m5, .int m6]))])) (va_A [(h0, .inr (7, [.int 0, v1, v2, v3, .int m4, .int m5, .int m6]))] sz)) 0 0 (va_A [(h0, .inr (7, [.int 0, v1, v2, v3, .int m4, .int m5, .int m6]))] sz) := by
  refine Met.ofW (cc := cX10_scan) (maxL := 9) (ret := (some .int)) (by decide) rfl ?_
  intro p e s m args below meth c s₁ B hml hv
  obtain ⟨rfl, hsz, hP, hE, hD0⟩ := hv
  have hx := B.exec
  have hb := B.bytes
  have hr := B.returns
  have hts := atoms_spec (ws := wsX10_scan) B.pre
  have hown : s.vm.findClass RX10 = some m.cls := findClass_of_methodNamed B.named
  have hlocks := B.notSynchronized
  subst hsz
  have hD := hD0.self (sz := s.heap.size)
  generalize hAe : va_A [(h0, .inr (7, [.int 0, v1, v2, v3, .int m4, .int m5, .int m6]))] s.heap.size = A at hD ⊢
  have hA : ∀ q : Nat, s.heap.size ≤ q → A q := fun q h => by rw [← hAe]; exact Or.inr h
  have hS : va_S A s.heap s.heap [] := va_S.rf
  have hP : va_P D vwCl [(h0, .inr (7, [.int 0, v1, v2, v3, .int m4, .int m5, .int m6]))] s.heap := hP
  have hl := lv_entry ([.ref h0, .int x1]) (n := 9) (Nat.le_of_ble_eq_true rfl)
  rw [lg_entry_eq]
  generalize (lg_sl ([.ref h0, .int x1]) ++ List.replicate (9 - (lg_sl ([.ref h0, .int x1])).length) Slot.unset).toArray = ls at hl ⊢
  have hl : lv_has ls 9 [(0, .ref h0), (1, .int x1)] := hl
  clear hD0
  refine lv_iconst (v := 0) hx hb dX10_scan_0 (by decide) ?_
  refine lv_istore_n (lv' := [(2, .int 0), (0, .ref h0), (1, .int x1)]) hx hb dX10_scan_1 rfl hl (by decide) rfl (fun ls hl => ?_)
  refine lv_iconst (v := 1) hx hb dX10_scan_2 (by decide) ?_
  refine lv_istore_n (lv' := [(3, .int 1), (2, .int 0), (0, .ref h0), (1, .int x1)]) hx hb dX10_scan_3 rfl hl (by decide) rfl (fun ls hl => ?_)
  refine lv_iconst (v := 0) hx hb dX10_scan_4 (by decide) ?_
  refine lv_istore (lv' := [(4, .int 0), (3, .int 1), (2, .int 0), (0, .ref h0), (1, .int x1)]) hx hb dX10_scan_5 hl (by decide) rfl (fun ls hl => ?_)
  refine lv_aload_n hx hb dX10_scan_7 rfl (lv_at hl 3 rfl) ?_
  refine lv_iconst (v := 0) hx hb dX10_scan_8 (by decide) ?_
  refine va_put (D := D) (ci := 7) (v := .int 0) (ty := .int) (C := RX10) (T := TX10) (N := 7) hx hb hts in_X10_scan_X10 tyX10 tyX10_ok nmX10 hown hE.1 hP hD hS 0 rfl rfl 4 (by decide) (hts (.fieldLink RX10 25 "ClauseBook$Tape" "words" "I") (List.mem_of_getElem? (i := 1) rfl)) (fun _ h9 => h9) rfl (by decide +kernel) rfl rfl (Nat.le_of_ble_eq_true rfl) dX10_scan_9 (fun H locs hP hD hS => ?_)
  have hP : va_P D vwCl [(h0, .inr (7, [.int 0, v1, v2, v3, .int 0, .int m5, .int m6]))] H := hP
  have hD : va_D A [(h0, .inr (7, [.int 0, v1, v2, v3, .int 0, .int m5, .int m6]))] := hD
  refine lv_iconst (v := 0) hx hb dX10_scan_12 (by decide) ?_
  refine lv_istore (lv' := [(5, .int 0), (4, .int 0), (3, .int 1), (2, .int 0), (0, .ref h0), (1, .int x1)]) hx hb dX10_scan_13 hl (by decide) rfl (fun ls hl => ?_)
  refine lv_iload hx hb dX10_scan_15 (lv_at hl 0 rfl) ?_
  refine lv_bipush (v := 120) hx hb dX10_scan_17 (by decide) ?_
  refine lv_icmp_ge (tgt := 231) hx hb dX10_scan_19 (by decide) (fun c9 => absurd c9 (by decide)) (fun _ => ?_)
  refine lv_iload_n hx hb dX10_scan_22 rfl (lv_at hl 3 rfl) ?_
  refine lv_aload_n hx hb dX10_scan_23 rfl (lv_at hl 4 rfl) ?_
  refine va_get (D := D) (ci := 7) (v := .int 0) (C := RX10) (T := TX10) (N := 7) hx hb hts in_X10_scan_X10 hown hE.1 hP 0 rfl rfl 0 (by decide) (hts (.fieldLink RX10 9 "ClauseBook$Tape" "size" "I") (List.mem_of_getElem? (i := 2) rfl)) (fun _ h9 => h9) rfl dX10_scan_24 ?_
  refine lv_icmp_ge (tgt := 231) hx hb dX10_scan_27 (by decide) (fun _ => ?_) (fun c9 => absurd c9 (by decide))
  refine lv_iload_n hx hb dX10_scan_231 rfl (lv_at hl 2 rfl) ?_
  refine lv_if_gt (tgt := 240) hx hb dX10_scan_232 (by decide) (fun _ => ?_) (fun c9 => absurd c9 (by decide))
  refine lv_aload_n hx hb dX10_scan_240 rfl (lv_at hl 4 rfl) ?_
  refine va_get (D := D) (ci := 7) (v := .int 0) (C := RX10) (T := TX10) (N := 7) hx hb hts in_X10_scan_X10 hown hE.1 hP 0 rfl rfl 0 (by decide) (hts (.fieldLink RX10 9 "ClauseBook$Tape" "size" "I") (List.mem_of_getElem? (i := 2) rfl)) (fun _ h9 => h9) rfl dX10_scan_241 ?_
  refine lv_goto (tgt := 248) hx hb dX10_scan_244 (by decide) ?_
  exact W.iret hx hb hr (fun t ht hW => ⟨⟨_, (), rfl, rfl, by rw [ht]; exact hP.sub [0] rfl, hD.sub [0] (by decide) rfl⟩, hS.F ht⟩) hS.2.2 dX10_scan_248
theorem dX12_text_0 : decode cX12_text 0 = .ok (.aload_n 0, 1) := by decide +kernel
theorem dX12_text_1 : decode cX12_text 1 = .ok (.getfield 59, 3) := by decide +kernel
theorem dX12_text_10 : decode cX12_text 10 = .ok (.getfield 138, 3) := by decide +kernel
theorem dX12_text_13 : decode cX12_text 13 = .ok (.isub, 1) := by decide +kernel
theorem dX12_text_14 : decode cX12_text 14 = .ok (.invokevirtual 289, 3) := by decide +kernel
theorem dX12_text_17 : decode cX12_text 17 = .ok (.istore_n 1, 1) := by decide +kernel
theorem dX12_text_18 : decode cX12_text 18 = .ok (.aload_n 0, 1) := by decide +kernel
theorem dX12_text_19 : decode cX12_text 19 = .ok (.getfield 59, 3) := by decide +kernel
theorem dX12_text_22 : decode cX12_text 22 = .ok (.iconst 0, 1) := by decide +kernel
theorem dX12_text_23 : decode cX12_text 23 = .ok (.putfield 285, 3) := by decide +kernel
theorem dX12_text_26 : decode cX12_text 26 = .ok (.iload_n 1, 1) := by decide +kernel
theorem dX12_text_27 : decode cX12_text 27 = .ok (.iconst (-1), 1) := by decide +kernel
theorem dX12_text_28 : decode cX12_text 28 = .ok (.if_icmp .eq 8, 3) := by decide +kernel
theorem dX12_text_31 : decode cX12_text 31 = .ok (.bipush (-100), 2) := by decide +kernel
theorem dX12_text_33 : decode cX12_text 33 = .ok (.iload_n 1, 1) := by decide +kernel
theorem dX12_text_34 : decode cX12_text 34 = .ok (.isub, 1) := by decide +kernel
theorem dX12_text_35 : decode cX12_text 35 = .ok (.ireturn, 1) := by decide +kernel
theorem dX12_text_4 : decode cX12_text 4 = .ok (.bipush 24, 2) := by decide +kernel
theorem dX12_text_6 : decode cX12_text 6 = .ok (.aload_n 0, 1) := by decide +kernel
theorem dX12_text_7 : decode cX12_text 7 = .ok (.getfield 32, 3) := by decide +kernel
set_option maxRecDepth 20000 in
theorem ggX12_text_X10_scan : GoodIn wsX12_text wsX10_scan := goodIn_r _ [10, 11, 12, 13, 14, 15, 16, 17, 18, 19, 20, 21, 22, 9, 23, 24, 25, 26, 27, 28, 29, 30, 31, 32, 33, 34, 35, 36, 37, 38, 39, 40, 41, 42, 43, 44, 45, 46, 47, 48, 49, 50, 51, 52, 53, 54, 55, 56, 57, 58, 59, 60, 61, 62, 63, 64, 65, 66, 67, 68, 69, 70, 71, 72, 73, 74, 75, 76, 77, 78, 79, 80, 81, 82, 83, 84, 85, 86, 87, 88, 89, 90, 91, 92, 93, 94, 95, 96, 97, 98, 99, 156, 157, 158, 159, 160, 161, 162] (by decide +kernel) (by decide +kernel)
set_option maxRecDepth 20000 in
theorem gX12_text_X10_scan : GoodIn wsX12_text (wsV RX12 289 RX10 yX10_scan wsX10_scan) := goodIn_app (goodIn_of _ (by decide +kernel)) ggX12_text_X10_scan
set_option maxRecDepth 20000 in
theorem in_X12_text_X10 : ∀ w ∈ wsX100, w ∈ wsX12_text := by decide +kernel
set_option maxRecDepth 20000 in
theorem in_X12_text_X12 : ∀ w ∈ wsX120, w ∈ wsX12_text := by decide +kernel
set_option maxRecDepth 20000 in
theorem in_X12_text_X2 : ∀ w ∈ wsX20, w ∈ wsX12_text := by decide +kernel
set_option maxHeartbeats 4000000 in
set_option maxRecDepth 100000 in
theorem f_X12_text (l : Launch) (D : va_G) (T : Nat → ClassId) (sz : Nat) (h0 : Nat) (h1 : Nat) (h2 : Nat) (fs0 : List Value) (fs2 : List Value) (v1 : Value) (v2 : Value) (v3 : Value) (m4 : Int32) (m5 : Int32) (m6 : Int32) (e0_4 : fs0[4]? = some (.ref h2)) (e0_8 : fs0[8]? = some (.ref h1)) (e2_0 : fs2[0]? = some (.int 0)) : Met l yX12_text wsX12_text ({ frames := 1, cells := 0, slots := 0, locals := 28 }) (pW [.ref h0] D T [(h0, .inr (9, fs0)), (h1, .inr (7, [.int 0, v1, v2, v3, .int m4, .int m5, .int m6])), (h2, .inr (1, fs2))] sz) (va_Qi (fun (r : Int32) (u : Unit) => r = -100) (bW D (va_A [(h0, .inr (9, fs0)), (h1, .inr (7, [.int 0, v1, v2, v3, .int m4, .int m5, .int m6])), (h2, .inr (1, fs2))] sz) (fun (u : Unit) => ([] : va_W))) (va_A [(h0, .inr (9, fs0)), (h1, .inr (7, [.int 0, v1, v2, v3, .int m4, .int m5, .int m6])), (h2, .inr (1, fs2))] sz)) 0 0 (va_A [(h0, .inr (9, fs0)), (h1, .inr (7, [.int 0, v1, v2, v3, .int m4, .int m5, .int m6])), (h2, .inr (1, fs2))] sz) := by
  refine Met.ofW (cc := cX12_text) (maxL := 2) (ret := (some .int)) (by decide) rfl ?_
  intro p e s m args below meth c s₁ B hml hv
  obtain ⟨rfl, hsz, hP, hE, hD0⟩ := hv
  have hx := B.exec
  have hb := B.bytes
  have hr := B.returns
  have hts := atoms_spec (ws := wsX12_text) B.pre
  have hown : s.vm.findClass RX12 = some m.cls := findClass_of_methodNamed B.named
  have hlocks := B.notSynchronized
  subst hsz
  have hD := hD0.self (sz := s.heap.size)
  generalize hAe : va_A [(h0, .inr (9, fs0)), (h1, .inr (7, [.int 0, v1, v2, v3, .int m4, .int m5, .int m6])), (h2, .inr (1, fs2))] s.heap.size = A at hD ⊢
  have hA : ∀ q : Nat, s.heap.size ≤ q → A q := fun q h => by rw [← hAe]; exact Or.inr h
  have hS : va_S A s.heap s.heap [] := va_S.rf
  have hP : va_P D vwCl [(h0, .inr (9, fs0)), (h1, .inr (7, [.int 0, v1, v2, v3, .int m4, .int m5, .int m6])), (h2, .inr (1, fs2))] s.heap := hP
  have hl := lv_entry ([.ref h0]) (n := 2) (Nat.le_of_ble_eq_true rfl)
  rw [lg_entry_eq]
  generalize (lg_sl ([.ref h0]) ++ List.replicate (2 - (lg_sl ([.ref h0])).length) Slot.unset).toArray = ls at hl ⊢
  have hl : lv_has ls 2 [(0, .ref h0)] := hl
  clear hD0
  refine lv_aload_n hx hb dX12_text_0 rfl (lv_at hl 0 rfl) ?_
  refine va_get (D := D) (ci := 9) (v := .ref h1) (C := RX12) (T := TX12) (N := 11) hx hb hts in_X12_text_X12 hown hE.1 hP 0 rfl rfl 8 (by decide) (hts (.fieldLink RX12 59 "ClauseBook" "tape" "LClauseBook$Tape;") (List.mem_of_getElem? (i := 1) rfl)) (fun _ h9 => h9) e0_8 dX12_text_1 ?_
  refine lv_bipush (v := 24) hx hb dX12_text_4 (by decide) ?_
  refine lv_aload_n hx hb dX12_text_6 rfl (lv_at hl 0 rfl) ?_
  refine va_get (D := D) (ci := 9) (v := .ref h2) (C := RX12) (T := TX12) (N := 11) hx hb hts in_X12_text_X12 hown hE.1 hP 0 rfl rfl 4 (by decide) (hts (.fieldLink RX12 32 "ClauseBook" "clauses" "LClauseBook$Clauses;") (List.mem_of_getElem? (i := 2) rfl)) (fun _ h9 => h9) e0_4 dX12_text_7 ?_
  refine va_get (D := D) (ci := 1) (v := .int 0) (C := RX2) (T := TX2) (N := 8) hx hb hts in_X12_text_X2 hown hE.1 hP 2 rfl rfl 0 (by decide) (hts (.fieldLink RX12 138 "ClauseBook$Clauses" "size" "I") (List.mem_of_getElem? (i := 3) rfl)) (fun _ h9 => h9) e2_0 dX12_text_10 ?_
  refine lv_isub hx hb dX12_text_13 ?_
  refine lv_topi (fun z_1 ez_1 => ?_)
  obtain rfl : z_1 = 24 := ez_1.trans (by decide)
  have hFc := va_free (wc := [(h1, .inr (7, [.int 0, v1, v2, v3, .int m4, .int m5, .int m6]))]) hD hS hA [1] rfl
  refine va_calli (va_runV (As := [.int 24]) (rest := []) ⟨hx, hb, hml, hown, hts⟩ (f_X10_scan l D T _ h1 (v1) (v2) (v3) m4 m5 m6 24) (cwV 1 hts gX12_text_X10_scan rfl rfl rfl (by decide +kernel) ⟨Nat.le_of_ble_eq_true rfl, Nat.le_of_ble_eq_true rfl⟩) (pW_V (ci := 7) (q0 := 1) hP hE hD rfl rfl [1] (by decide) rfl rfl) rfl rfl hl.1 rfl (lv_room (Nat.le_of_ble_eq_true rfl)) dX12_text_14 ⟨Nat.le_of_ble_eq_true rfl, Nat.le_of_ble_eq_true rfl⟩) hS (fun q _ h => hFc q h) hFc (fun r_2 u_3 t H1 locs ht hvm hr_2 hB hz1 hk1 hS => ?_)
  obtain ⟨hP1, hD1⟩ := hB
  rw [ht] at hP1
  obtain ⟨hP, hD⟩ := va_join (wr := [(h0, .inr (9, fs0)), (h2, .inr (1, fs2))]) (w1 := [(h1, .inr (7, [.int 0, v1, v2, v3, .int 0, .int m5, .int m6]))]) hP hD [1] [0, 2] rfl rfl (by decide) (by decide) hk1 hFc hP1 hD1
  clear hP1 hD1 hFc
  generalize H1 = H at hP hS ⊢
  have hP : va_P D vwCl [(h0, .inr (9, fs0)), (h2, .inr (1, fs2)), (h1, .inr (7, [.int 0, v1, v2, v3, .int 0, .int m5, .int m6]))] H := hP
  have hD : va_D A [(h0, .inr (9, fs0)), (h2, .inr (1, fs2)), (h1, .inr (7, [.int 0, v1, v2, v3, .int 0, .int m5, .int m6]))] := hD
  obtain rfl : r_2 = 0 := hr_2
  refine lv_istore_n (lv' := [(1, .int 0), (0, .ref h0)]) hx hb dX12_text_17 rfl hl (by decide) rfl (fun ls hl => ?_)
  refine lv_aload_n hx hb dX12_text_18 rfl (lv_at hl 1 rfl) ?_
  refine va_get (D := D) (ci := 9) (v := .ref h1) (C := RX12) (T := TX12) (N := 11) hx hb hts in_X12_text_X12 hown hE.1 hP 0 rfl rfl 8 (by decide) (hts (.fieldLink RX12 59 "ClauseBook" "tape" "LClauseBook$Tape;") (List.mem_of_getElem? (i := 1) rfl)) (fun _ h9 => h9) e0_8 dX12_text_19 ?_
  refine lv_iconst (v := 0) hx hb dX12_text_22 (by decide) ?_
  refine va_put (D := D) (ci := 7) (v := .int 0) (ty := .int) (C := RX10) (T := TX10) (N := 7) hx hb hts in_X12_text_X10 tyX10 tyX10_ok nmX10 hown hE.1 hP hD hS 2 rfl rfl 0 (by decide) (hts (.fieldLink RX12 285 "ClauseBook$Tape" "size" "I") (List.mem_of_getElem? (i := 4) rfl)) (fun _ h9 => h9) rfl (by decide +kernel) rfl rfl (Nat.le_of_ble_eq_true rfl) dX12_text_23 (fun H locs hP hD hS => ?_)
  have hP : va_P D vwCl [(h0, .inr (9, fs0)), (h2, .inr (1, fs2)), (h1, .inr (7, [.int 0, v1, v2, v3, .int 0, .int m5, .int m6]))] H := hP
  have hD : va_D A [(h0, .inr (9, fs0)), (h2, .inr (1, fs2)), (h1, .inr (7, [.int 0, v1, v2, v3, .int 0, .int m5, .int m6]))] := hD
  refine lv_iload_n hx hb dX12_text_26 rfl (lv_at hl 0 rfl) ?_
  refine lv_iconst (v := (-1)) hx hb dX12_text_27 (by decide) ?_
  refine lv_icmp_eq (tgt := 36) hx hb dX12_text_28 (by decide) (fun c9 => absurd c9 (by decide)) (fun _ => ?_)
  refine lv_bipush (v := (-100)) hx hb dX12_text_31 (by decide) ?_
  refine lv_iload_n hx hb dX12_text_33 rfl (lv_at hl 0 rfl) ?_
  refine lv_isub hx hb dX12_text_34 ?_
  refine lv_topi (fun z_4 ez_4 => ?_)
  obtain rfl : z_4 = (-100) := ez_4.trans (by decide)
  exact W.iret hx hb hr (fun t ht hW => ⟨⟨_, (), rfl, rfl, by rw [ht]; exact hP.sub [] rfl, hD.sub [] (by decide) rfl⟩, hS.F ht⟩) hS.2.2 dX12_text_35
theorem dX8_become_0 : decode cX8_become 0 = .ok (.aload_n 0, 1) := by decide +kernel
theorem dX8_become_1 : decode cX8_become 1 = .ok (.aload_n 1, 1) := by decide +kernel
theorem dX8_become_10 : decode cX8_become 10 = .ok (.getfield 13, 3) := by decide +kernel
theorem dX8_become_13 : decode cX8_become 13 = .ok (.putfield 13, 3) := by decide +kernel
theorem dX8_become_16 : decode cX8_become 16 = .ok (.aload_n 0, 1) := by decide +kernel
theorem dX8_become_17 : decode cX8_become 17 = .ok (.aload_n 1, 1) := by decide +kernel
theorem dX8_become_18 : decode cX8_become 18 = .ok (.getfield 16, 3) := by decide +kernel
theorem dX8_become_2 : decode cX8_become 2 = .ok (.getfield 7, 3) := by decide +kernel
theorem dX8_become_21 : decode cX8_become 21 = .ok (.putfield 16, 3) := by decide +kernel
theorem dX8_become_24 : decode cX8_become 24 = .ok (.aload_n 0, 1) := by decide +kernel
theorem dX8_become_25 : decode cX8_become 25 = .ok (.aload_n 1, 1) := by decide +kernel
theorem dX8_become_26 : decode cX8_become 26 = .ok (.getfield 19, 3) := by decide +kernel
theorem dX8_become_29 : decode cX8_become 29 = .ok (.putfield 19, 3) := by decide +kernel
theorem dX8_become_32 : decode cX8_become 32 = .ok (.aload_n 0, 1) := by decide +kernel
theorem dX8_become_33 : decode cX8_become 33 = .ok (.aload_n 1, 1) := by decide +kernel
theorem dX8_become_34 : decode cX8_become 34 = .ok (.getfield 22, 3) := by decide +kernel
theorem dX8_become_37 : decode cX8_become 37 = .ok (.putfield 22, 3) := by decide +kernel
theorem dX8_become_40 : decode cX8_become 40 = .ok (.aload_n 0, 1) := by decide +kernel
theorem dX8_become_41 : decode cX8_become 41 = .ok (.aload_n 1, 1) := by decide +kernel
theorem dX8_become_42 : decode cX8_become 42 = .ok (.getfield 25, 3) := by decide +kernel
theorem dX8_become_45 : decode cX8_become 45 = .ok (.putfield 25, 3) := by decide +kernel
theorem dX8_become_48 : decode cX8_become 48 = .ok (.aload_n 0, 1) := by decide +kernel
theorem dX8_become_49 : decode cX8_become 49 = .ok (.aload_n 1, 1) := by decide +kernel
theorem dX8_become_5 : decode cX8_become 5 = .ok (.putfield 7, 3) := by decide +kernel
theorem dX8_become_50 : decode cX8_become 50 = .ok (.getfield 28, 3) := by decide +kernel
theorem dX8_become_53 : decode cX8_become 53 = .ok (.putfield 28, 3) := by decide +kernel
theorem dX8_become_56 : decode cX8_become 56 = .ok (.return_, 1) := by decide +kernel
theorem dX8_become_8 : decode cX8_become 8 = .ok (.aload_n 0, 1) := by decide +kernel
theorem dX8_become_9 : decode cX8_become 9 = .ok (.aload_n 1, 1) := by decide +kernel
set_option maxRecDepth 20000 in
theorem in_X8_become_X8 : ∀ w ∈ wsX80, w ∈ wsX8_become := by decide +kernel
set_option maxHeartbeats 4000000 in
set_option maxRecDepth 100000 in
theorem f_X8_become (l : Launch) (D : va_G) (T : Nat → ClassId) (sz : Nat) (h0 : Nat) (o1 : Nat) (m0 : Int32) (m1 : Int32) (m2 : Int32) (m3 : Int32) (m4 : Int32) (m5 : Int32) (m6 : Int32) (n0 : Int32) (n1 : Int32) (n2 : Int32) (n3 : Int32) (n4 : Int32) (n5 : Int32) (n6 : Int32)  : Met l yX8_become wsX8_become ({ frames := 0, cells := 0, slots := 0, locals := 0 }) (pW [.ref h0, .ref o1] D T [(h0, .inr (5, [.int m0, .int m1, .int m2, .int m3, .int m4, .int m5, .int m6])), (o1, .inr (5, [.int n0, .int n1, .int n2, .int n3, .int n4, .int n5, .int n6]))] sz) (va_Qv (fun (u : Unit) => True) (bW D (va_A [(h0, .inr (5, [.int m0, .int m1, .int m2, .int m3, .int m4, .int m5, .int m6])), (o1, .inr (5, [.int n0, .int n1, .int n2, .int n3, .int n4, .int n5, .int n6]))] sz) (fun (u : Unit) => ([] : va_W))) (va_A [(h0, .inr (5, [.int m0, .int m1, .int m2, .int m3, .int m4, .int m5, .int m6])), (o1, .inr (5, [.int n0, .int n1, .int n2, .int n3, .int n4, .int n5, .int n6]))] sz)) 0 0 (va_A [(h0, .inr (5, [.int m0, .int m1, .int m2, .int m3, .int m4, .int m5, .int m6])), (o1, .inr (5, [.int n0, .int n1, .int n2, .int n3, .int n4, .int n5, .int n6]))] sz) := by
  refine Met.ofW (cc := cX8_become) (maxL := 2) (ret := none) (by decide) rfl ?_
  intro p e s m args below meth c s₁ B hml hv
  obtain ⟨rfl, hsz, hP, hE, hD0⟩ := hv
  have hx := B.exec
  have hb := B.bytes
  have hr := B.returns
  have hts := atoms_spec (ws := wsX8_become) B.pre
  have hown : s.vm.findClass RX8 = some m.cls := findClass_of_methodNamed B.named
  have hlocks := B.notSynchronized
  subst hsz
  have hD := hD0.self (sz := s.heap.size)
  generalize hAe : va_A [(h0, .inr (5, [.int m0, .int m1, .int m2, .int m3, .int m4, .int m5, .int m6])), (o1, .inr (5, [.int n0, .int n1, .int n2, .int n3, .int n4, .int n5, .int n6]))] s.heap.size = A at hD ⊢
  have hA : ∀ q : Nat, s.heap.size ≤ q → A q := fun q h => by rw [← hAe]; exact Or.inr h
  have hS : va_S A s.heap s.heap [] := va_S.rf
  have hP : va_P D vwCl [(h0, .inr (5, [.int m0, .int m1, .int m2, .int m3, .int m4, .int m5, .int m6])), (o1, .inr (5, [.int n0, .int n1, .int n2, .int n3, .int n4, .int n5, .int n6]))] s.heap := hP
  have hl := lv_entry ([.ref h0, .ref o1]) (n := 2) (Nat.le_of_ble_eq_true rfl)
  rw [lg_entry_eq]
  generalize (lg_sl ([.ref h0, .ref o1]) ++ List.replicate (2 - (lg_sl ([.ref h0, .ref o1])).length) Slot.unset).toArray = ls at hl ⊢
  have hl : lv_has ls 2 [(0, .ref h0), (1, .ref o1)] := hl
  clear hD0
  refine lv_aload_n hx hb dX8_become_0 rfl (lv_at hl 0 rfl) ?_
  refine lv_aload_n hx hb dX8_become_1 rfl (lv_at hl 1 rfl) ?_
  refine va_get (D := D) (ci := 5) (v := .int n0) (C := RX8) (T := TX8) (N := 7) hx hb hts in_X8_become_X8 hown hE.1 hP 1 rfl rfl 0 (by decide) (hts (.fieldLink RX8 7 "ClauseBook$Lattice" "start" "I") (List.mem_of_getElem? (i := 1) rfl)) (fun _ h9 => h9) rfl dX8_become_2 ?_
  refine va_put (D := D) (ci := 5) (v := .int n0) (ty := .int) (C := RX8) (T := TX8) (N := 7) hx hb hts in_X8_become_X8 tyX8 tyX8_ok nmX8 hown hE.1 hP hD hS 0 rfl rfl 0 (by decide) (hts (.fieldLink RX8 7 "ClauseBook$Lattice" "start" "I") (List.mem_of_getElem? (i := 1) rfl)) (fun _ h9 => h9) rfl (by decide +kernel) rfl rfl (Nat.le_of_ble_eq_true rfl) dX8_become_5 (fun H locs hP hD hS => ?_)
  have hP : va_P D vwCl [(h0, .inr (5, [.int n0, .int m1, .int m2, .int m3, .int m4, .int m5, .int m6])), (o1, .inr (5, [.int n0, .int n1, .int n2, .int n3, .int n4, .int n5, .int n6]))] H := hP
  have hD : va_D A [(h0, .inr (5, [.int n0, .int m1, .int m2, .int m3, .int m4, .int m5, .int m6])), (o1, .inr (5, [.int n0, .int n1, .int n2, .int n3, .int n4, .int n5, .int n6]))] := hD
  refine lv_aload_n hx hb dX8_become_8 rfl (lv_at hl 0 rfl) ?_
  refine lv_aload_n hx hb dX8_become_9 rfl (lv_at hl 1 rfl) ?_
  refine va_get (D := D) (ci := 5) (v := .int n1) (C := RX8) (T := TX8) (N := 7) hx hb hts in_X8_become_X8 hown hE.1 hP 1 rfl rfl 1 (by decide) (hts (.fieldLink RX8 13 "ClauseBook$Lattice" "up" "I") (List.mem_of_getElem? (i := 2) rfl)) (fun _ h9 => h9) rfl dX8_become_10 ?_
  refine va_put (D := D) (ci := 5) (v := .int n1) (ty := .int) (C := RX8) (T := TX8) (N := 7) hx hb hts in_X8_become_X8 tyX8 tyX8_ok nmX8 hown hE.1 hP hD hS 0 rfl rfl 1 (by decide) (hts (.fieldLink RX8 13 "ClauseBook$Lattice" "up" "I") (List.mem_of_getElem? (i := 2) rfl)) (fun _ h9 => h9) rfl (by decide +kernel) rfl rfl (Nat.le_of_ble_eq_true rfl) dX8_become_13 (fun H locs hP hD hS => ?_)
  have hP : va_P D vwCl [(h0, .inr (5, [.int n0, .int n1, .int m2, .int m3, .int m4, .int m5, .int m6])), (o1, .inr (5, [.int n0, .int n1, .int n2, .int n3, .int n4, .int n5, .int n6]))] H := hP
  have hD : va_D A [(h0, .inr (5, [.int n0, .int n1, .int m2, .int m3, .int m4, .int m5, .int m6])), (o1, .inr (5, [.int n0, .int n1, .int n2, .int n3, .int n4, .int n5, .int n6]))] := hD
  refine lv_aload_n hx hb dX8_become_16 rfl (lv_at hl 0 rfl) ?_
  refine lv_aload_n hx hb dX8_become_17 rfl (lv_at hl 1 rfl) ?_
  refine va_get (D := D) (ci := 5) (v := .int n2) (C := RX8) (T := TX8) (N := 7) hx hb hts in_X8_become_X8 hown hE.1 hP 1 rfl rfl 2 (by decide) (hts (.fieldLink RX8 16 "ClauseBook$Lattice" "down" "I") (List.mem_of_getElem? (i := 3) rfl)) (fun _ h9 => h9) rfl dX8_become_18 ?_
  refine va_put (D := D) (ci := 5) (v := .int n2) (ty := .int) (C := RX8) (T := TX8) (N := 7) hx hb hts in_X8_become_X8 tyX8 tyX8_ok nmX8 hown hE.1 hP hD hS 0 rfl rfl 2 (by decide) (hts (.fieldLink RX8 16 "ClauseBook$Lattice" "down" "I") (List.mem_of_getElem? (i := 3) rfl)) (fun _ h9 => h9) rfl (by decide +kernel) rfl rfl (Nat.le_of_ble_eq_true rfl) dX8_become_21 (fun H locs hP hD hS => ?_)
  have hP : va_P D vwCl [(h0, .inr (5, [.int n0, .int n1, .int n2, .int m3, .int m4, .int m5, .int m6])), (o1, .inr (5, [.int n0, .int n1, .int n2, .int n3, .int n4, .int n5, .int n6]))] H := hP
  have hD : va_D A [(h0, .inr (5, [.int n0, .int n1, .int n2, .int m3, .int m4, .int m5, .int m6])), (o1, .inr (5, [.int n0, .int n1, .int n2, .int n3, .int n4, .int n5, .int n6]))] := hD
  refine lv_aload_n hx hb dX8_become_24 rfl (lv_at hl 0 rfl) ?_
  refine lv_aload_n hx hb dX8_become_25 rfl (lv_at hl 1 rfl) ?_
  refine va_get (D := D) (ci := 5) (v := .int n3) (C := RX8) (T := TX8) (N := 7) hx hb hts in_X8_become_X8 hown hE.1 hP 1 rfl rfl 3 (by decide) (hts (.fieldLink RX8 19 "ClauseBook$Lattice" "p" "I") (List.mem_of_getElem? (i := 4) rfl)) (fun _ h9 => h9) rfl dX8_become_26 ?_
  refine va_put (D := D) (ci := 5) (v := .int n3) (ty := .int) (C := RX8) (T := TX8) (N := 7) hx hb hts in_X8_become_X8 tyX8 tyX8_ok nmX8 hown hE.1 hP hD hS 0 rfl rfl 3 (by decide) (hts (.fieldLink RX8 19 "ClauseBook$Lattice" "p" "I") (List.mem_of_getElem? (i := 4) rfl)) (fun _ h9 => h9) rfl (by decide +kernel) rfl rfl (Nat.le_of_ble_eq_true rfl) dX8_become_29 (fun H locs hP hD hS => ?_)
  have hP : va_P D vwCl [(h0, .inr (5, [.int n0, .int n1, .int n2, .int n3, .int m4, .int m5, .int m6])), (o1, .inr (5, [.int n0, .int n1, .int n2, .int n3, .int n4, .int n5, .int n6]))] H := hP
  have hD : va_D A [(h0, .inr (5, [.int n0, .int n1, .int n2, .int n3, .int m4, .int m5, .int m6])), (o1, .inr (5, [.int n0, .int n1, .int n2, .int n3, .int n4, .int n5, .int n6]))] := hD
  refine lv_aload_n hx hb dX8_become_32 rfl (lv_at hl 0 rfl) ?_
  refine lv_aload_n hx hb dX8_become_33 rfl (lv_at hl 1 rfl) ?_
  refine va_get (D := D) (ci := 5) (v := .int n4) (C := RX8) (T := TX8) (N := 7) hx hb hts in_X8_become_X8 hown hE.1 hP 1 rfl rfl 4 (by decide) (hts (.fieldLink RX8 22 "ClauseBook$Lattice" "q" "I") (List.mem_of_getElem? (i := 5) rfl)) (fun _ h9 => h9) rfl dX8_become_34 ?_
  refine va_put (D := D) (ci := 5) (v := .int n4) (ty := .int) (C := RX8) (T := TX8) (N := 7) hx hb hts in_X8_become_X8 tyX8 tyX8_ok nmX8 hown hE.1 hP hD hS 0 rfl rfl 4 (by decide) (hts (.fieldLink RX8 22 "ClauseBook$Lattice" "q" "I") (List.mem_of_getElem? (i := 5) rfl)) (fun _ h9 => h9) rfl (by decide +kernel) rfl rfl (Nat.le_of_ble_eq_true rfl) dX8_become_37 (fun H locs hP hD hS => ?_)
  have hP : va_P D vwCl [(h0, .inr (5, [.int n0, .int n1, .int n2, .int n3, .int n4, .int m5, .int m6])), (o1, .inr (5, [.int n0, .int n1, .int n2, .int n3, .int n4, .int n5, .int n6]))] H := hP
  have hD : va_D A [(h0, .inr (5, [.int n0, .int n1, .int n2, .int n3, .int n4, .int m5, .int m6])), (o1, .inr (5, [.int n0, .int n1, .int n2, .int n3, .int n4, .int n5, .int n6]))] := hD
  refine lv_aload_n hx hb dX8_become_40 rfl (lv_at hl 0 rfl) ?_
  refine lv_aload_n hx hb dX8_become_41 rfl (lv_at hl 1 rfl) ?_
  refine va_get (D := D) (ci := 5) (v := .int n5) (C := RX8) (T := TX8) (N := 7) hx hb hts in_X8_become_X8 hown hE.1 hP 1 rfl rfl 5 (by decide) (hts (.fieldLink RX8 25 "ClauseBook$Lattice" "a" "I") (List.mem_of_getElem? (i := 6) rfl)) (fun _ h9 => h9) rfl dX8_become_42 ?_
  refine va_put (D := D) (ci := 5) (v := .int n5) (ty := .int) (C := RX8) (T := TX8) (N := 7) hx hb hts in_X8_become_X8 tyX8 tyX8_ok nmX8 hown hE.1 hP hD hS 0 rfl rfl 5 (by decide) (hts (.fieldLink RX8 25 "ClauseBook$Lattice" "a" "I") (List.mem_of_getElem? (i := 6) rfl)) (fun _ h9 => h9) rfl (by decide +kernel) rfl rfl (Nat.le_of_ble_eq_true rfl) dX8_become_45 (fun H locs hP hD hS => ?_)
  have hP : va_P D vwCl [(h0, .inr (5, [.int n0, .int n1, .int n2, .int n3, .int n4, .int n5, .int m6])), (o1, .inr (5, [.int n0, .int n1, .int n2, .int n3, .int n4, .int n5, .int n6]))] H := hP
  have hD : va_D A [(h0, .inr (5, [.int n0, .int n1, .int n2, .int n3, .int n4, .int n5, .int m6])), (o1, .inr (5, [.int n0, .int n1, .int n2, .int n3, .int n4, .int n5, .int n6]))] := hD
  refine lv_aload_n hx hb dX8_become_48 rfl (lv_at hl 0 rfl) ?_
  refine lv_aload_n hx hb dX8_become_49 rfl (lv_at hl 1 rfl) ?_
  refine va_get (D := D) (ci := 5) (v := .int n6) (C := RX8) (T := TX8) (N := 7) hx hb hts in_X8_become_X8 hown hE.1 hP 1 rfl rfl 6 (by decide) (hts (.fieldLink RX8 28 "ClauseBook$Lattice" "b" "I") (List.mem_of_getElem? (i := 7) rfl)) (fun _ h9 => h9) rfl dX8_become_50 ?_
  refine va_put (D := D) (ci := 5) (v := .int n6) (ty := .int) (C := RX8) (T := TX8) (N := 7) hx hb hts in_X8_become_X8 tyX8 tyX8_ok nmX8 hown hE.1 hP hD hS 0 rfl rfl 6 (by decide) (hts (.fieldLink RX8 28 "ClauseBook$Lattice" "b" "I") (List.mem_of_getElem? (i := 7) rfl)) (fun _ h9 => h9) rfl (by decide +kernel) rfl rfl (Nat.le_of_ble_eq_true rfl) dX8_become_53 (fun H locs hP hD hS => ?_)
  have hP : va_P D vwCl [(h0, .inr (5, [.int n0, .int n1, .int n2, .int n3, .int n4, .int n5, .int n6])), (o1, .inr (5, [.int n0, .int n1, .int n2, .int n3, .int n4, .int n5, .int n6]))] H := hP
  have hD : va_D A [(h0, .inr (5, [.int n0, .int n1, .int n2, .int n3, .int n4, .int n5, .int n6])), (o1, .inr (5, [.int n0, .int n1, .int n2, .int n3, .int n4, .int n5, .int n6]))] := hD
  exact W.vret hx hb hr (fun t ht hW => ⟨⟨(), rfl, trivial, by rw [ht]; exact hP.sub [] rfl, hD.sub [] (by decide) rfl⟩, hS.F ht⟩) hS.2.2 dX8_become_56
theorem dX1_become_0 : decode cX1_become 0 = .ok (.aload_n 0, 1) := by decide +kernel
theorem dX1_become_1 : decode cX1_become 1 = .ok (.aload_n 1, 1) := by decide +kernel
theorem dX1_become_12 : decode cX1_become 12 = .ok (.iconst 0, 1) := by decide +kernel
theorem dX1_become_13 : decode cX1_become 13 = .ok (.aload_n 0, 1) := by decide +kernel
theorem dX1_become_14 : decode cX1_become 14 = .ok (.getfield 15, 3) := by decide +kernel
theorem dX1_become_17 : decode cX1_become 17 = .ok (.iconst 0, 1) := by decide +kernel
theorem dX1_become_18 : decode cX1_become 18 = .ok (.bipush 12, 2) := by decide +kernel
theorem dX1_become_2 : decode cX1_become 2 = .ok (.getfield 9, 3) := by decide +kernel
theorem dX1_become_20 : decode cX1_become 20 = .ok (.invokestatic 19, 3) := by decide +kernel
theorem dX1_become_23 : decode cX1_become 23 = .ok (.return_, 1) := by decide +kernel
theorem dX1_become_5 : decode cX1_become 5 = .ok (.putfield 9, 3) := by decide +kernel
theorem dX1_become_8 : decode cX1_become 8 = .ok (.aload_n 1, 1) := by decide +kernel
theorem dX1_become_9 : decode cX1_become 9 = .ok (.getfield 15, 3) := by decide +kernel
set_option maxRecDepth 20000 in
theorem in_X1_become_X1 : ∀ w ∈ wsX10, w ∈ wsX1_become := by decide +kernel
set_option maxHeartbeats 4000000 in
set_option maxRecDepth 100000 in
theorem f_X1_become (l : Launch) (D : va_G) (T : Nat → ClassId) (sz : Nat) (h0 : Nat) (o1 : Nat) (h1 : Nat) (h2 : Nat) (mm : Int32) (n : Int32) (f : Nat → Int32) (g : Nat → Int32)  : Met l yX1_become wsX1_become ({ frames := 1, cells := 0, slots := 0, locals := 80 }) (pW [.ref h0, .ref o1] D T [(h0, .inr (0, [.int mm, .ref h1])), (o1, .inr (0, [.int n, .ref h2])), (h1, .inl (T 0, 12, .inl f)), (h2, .inl (T 0, 12, .inl g))] sz) (va_Qv (fun (u : Unit) => True) (bW D (va_A [(h0, .inr (0, [.int mm, .ref h1])), (o1, .inr (0, [.int n, .ref h2])), (h1, .inl (T 0, 12, .inl f)), (h2, .inl (T 0, 12, .inl g))] sz) (fun (u : Unit) => ([] : va_W))) (va_A [(h0, .inr (0, [.int mm, .ref h1])), (o1, .inr (0, [.int n, .ref h2])), (h1, .inl (T 0, 12, .inl f)), (h2, .inl (T 0, 12, .inl g))] sz)) 0 0 (va_A [(h0, .inr (0, [.int mm, .ref h1])), (o1, .inr (0, [.int n, .ref h2])), (h1, .inl (T 0, 12, .inl f)), (h2, .inl (T 0, 12, .inl g))] sz) := by
  refine Met.ofW (cc := cX1_become) (maxL := 2) (ret := none) (by decide) rfl ?_
  intro p e s m args below meth c s₁ B hml hv
  obtain ⟨rfl, hsz, hP, hE, hD0⟩ := hv
  have hx := B.exec
  have hb := B.bytes
  have hr := B.returns
  have hts := atoms_spec (ws := wsX1_become) B.pre
  have hown : s.vm.findClass RX1 = some m.cls := findClass_of_methodNamed B.named
  have hlocks := B.notSynchronized
  subst hsz
  have hD := hD0.self (sz := s.heap.size)
  generalize hAe : va_A [(h0, .inr (0, [.int mm, .ref h1])), (o1, .inr (0, [.int n, .ref h2])), (h1, .inl (T 0, 12, .inl f)), (h2, .inl (T 0, 12, .inl g))] s.heap.size = A at hD ⊢
  have hA : ∀ q : Nat, s.heap.size ≤ q → A q := fun q h => by rw [← hAe]; exact Or.inr h
  have hS : va_S A s.heap s.heap [] := va_S.rf
  have hP : va_P D vwCl [(h0, .inr (0, [.int mm, .ref h1])), (o1, .inr (0, [.int n, .ref h2])), (h1, .inl (T 0, 12, .inl f)), (h2, .inl (T 0, 12, .inl g))] s.heap := hP
  have hl := lv_entry ([.ref h0, .ref o1]) (n := 2) (Nat.le_of_ble_eq_true rfl)
  rw [lg_entry_eq]
  generalize (lg_sl ([.ref h0, .ref o1]) ++ List.replicate (2 - (lg_sl ([.ref h0, .ref o1])).length) Slot.unset).toArray = ls at hl ⊢
  have hl : lv_has ls 2 [(0, .ref h0), (1, .ref o1)] := hl
  clear hD0
  refine lv_aload_n hx hb dX1_become_0 rfl (lv_at hl 0 rfl) ?_
  refine lv_aload_n hx hb dX1_become_1 rfl (lv_at hl 1 rfl) ?_
  refine va_get (D := D) (ci := 0) (v := .int n) (C := RX1) (T := TX1) (N := 2) hx hb hts in_X1_become_X1 hown hE.1 hP 1 rfl rfl 0 (by decide) (hts (.fieldLink RX1 9 "ClauseBook$Bag" "size" "I") (List.mem_of_getElem? (i := 1) rfl)) (fun _ h9 => h9) rfl dX1_become_2 ?_
  refine va_put (D := D) (ci := 0) (v := .int n) (ty := .int) (C := RX1) (T := TX1) (N := 2) hx hb hts in_X1_become_X1 tyX1 tyX1_ok nmX1 hown hE.1 hP hD hS 0 rfl rfl 0 (by decide) (hts (.fieldLink RX1 9 "ClauseBook$Bag" "size" "I") (List.mem_of_getElem? (i := 1) rfl)) (fun _ h9 => h9) rfl (by decide +kernel) rfl rfl (Nat.le_of_ble_eq_true rfl) dX1_become_5 (fun H locs hP hD hS => ?_)
  have hP : va_P D vwCl [(h0, .inr (0, [.int n, .ref h1])), (o1, .inr (0, [.int n, .ref h2])), (h1, .inl (T 0, 12, .inl f)), (h2, .inl (T 0, 12, .inl g))] H := hP
  have hD : va_D A [(h0, .inr (0, [.int n, .ref h1])), (o1, .inr (0, [.int n, .ref h2])), (h1, .inl (T 0, 12, .inl f)), (h2, .inl (T 0, 12, .inl g))] := hD
  refine lv_aload_n hx hb dX1_become_8 rfl (lv_at hl 1 rfl) ?_
  refine va_get (D := D) (ci := 0) (v := .ref h2) (C := RX1) (T := TX1) (N := 2) hx hb hts in_X1_become_X1 hown hE.1 hP 1 rfl rfl 1 (by decide) (hts (.fieldLink RX1 15 "ClauseBook$Bag" "numbers" "[I") (List.mem_of_getElem? (i := 2) rfl)) (fun _ h9 => h9) rfl dX1_become_9 ?_
  refine lv_iconst (v := 0) hx hb dX1_become_12 (by decide) ?_
  refine lv_aload_n hx hb dX1_become_13 rfl (lv_at hl 0 rfl) ?_
  refine va_get (D := D) (ci := 0) (v := .ref h1) (C := RX1) (T := TX1) (N := 2) hx hb hts in_X1_become_X1 hown hE.1 hP 0 rfl rfl 1 (by decide) (hts (.fieldLink RX1 15 "ClauseBook$Bag" "numbers" "[I") (List.mem_of_getElem? (i := 2) rfl)) (fun _ h9 => h9) rfl dX1_become_14 ?_
  refine lv_iconst (v := 0) hx hb dX1_become_17 (by decide) ?_
  refine lv_bipush (v := 12) hx hb dX1_become_18 (by decide) ?_
  refine va_copyi (ty := .int) hx hb (hml.trans hl.1.symm) hown (hts (.methodLink RX1 19 arraycopyName) (List.mem_of_getElem? (i := 3) rfl)) (hts (.native arraycopyName) (List.mem_of_getElem? (i := 4) rfl)) (hts (.static arraycopyName) (List.mem_of_getElem? (i := 5) rfl)) (hts (.initialized "java/lang/System") (List.mem_of_getElem? (i := 6) rfl)) hE.1 hP hD hS 3 2 0 0 rfl rfl rfl rfl rfl (by decide) (by decide) (by decide) (by decide) (by decide) (fun _ _ => rfl) (Nat.le_of_ble_eq_true rfl) (Nat.le_of_ble_eq_true rfl) dX1_become_20 (fun H locs hP hD hS => ?_)
  have hP : va_P D vwCl [(h0, .inr (0, [.int n, .ref h1])), (o1, .inr (0, [.int n, .ref h2])), (h1, .inl (T 0, 12, .inl (va_cpy g f 0 0 12))), (h2, .inl (T 0, 12, .inl g))] H := hP
  have hD : va_D A [(h0, .inr (0, [.int n, .ref h1])), (o1, .inr (0, [.int n, .ref h2])), (h1, .inl (T 0, 12, .inl (va_cpy g f 0 0 12))), (h2, .inl (T 0, 12, .inl g))] := hD
  exact W.vret hx hb hr (fun t ht hW => ⟨⟨(), rfl, trivial, by rw [ht]; exact hP.sub [] rfl, hD.sub [] (by decide) rfl⟩, hS.F ht⟩) hS.2.2 dX1_become_23
theorem dX2_become_0 : decode cX2_become 0 = .ok (.aload_n 0, 1) := by decide +kernel
theorem dX2_become_1 : decode cX2_become 1 = .ok (.aload_n 1, 1) := by decide +kernel
theorem dX2_become_12 : decode cX2_become 12 = .ok (.iconst 0, 1) := by decide +kernel
theorem dX2_become_13 : decode cX2_become 13 = .ok (.aload_n 0, 1) := by decide +kernel
theorem dX2_become_14 : decode cX2_become 14 = .ok (.getfield 15, 3) := by decide +kernel
theorem dX2_become_17 : decode cX2_become 17 = .ok (.iconst 0, 1) := by decide +kernel
theorem dX2_become_18 : decode cX2_become 18 = .ok (.bipush 24, 2) := by decide +kernel
theorem dX2_become_2 : decode cX2_become 2 = .ok (.getfield 9, 3) := by decide +kernel
theorem dX2_become_20 : decode cX2_become 20 = .ok (.invokestatic 81, 3) := by decide +kernel
theorem dX2_become_23 : decode cX2_become 23 = .ok (.aload_n 1, 1) := by decide +kernel
theorem dX2_become_24 : decode cX2_become 24 = .ok (.getfield 19, 3) := by decide +kernel
theorem dX2_become_27 : decode cX2_become 27 = .ok (.iconst 0, 1) := by decide +kernel
theorem dX2_become_28 : decode cX2_become 28 = .ok (.aload_n 0, 1) := by decide +kernel
theorem dX2_become_29 : decode cX2_become 29 = .ok (.getfield 19, 3) := by decide +kernel
theorem dX2_become_32 : decode cX2_become 32 = .ok (.iconst 0, 1) := by decide +kernel
theorem dX2_become_33 : decode cX2_become 33 = .ok (.bipush 24, 2) := by decide +kernel
theorem dX2_become_35 : decode cX2_become 35 = .ok (.invokestatic 81, 3) := by decide +kernel
theorem dX2_become_38 : decode cX2_become 38 = .ok (.aload_n 1, 1) := by decide +kernel
theorem dX2_become_39 : decode cX2_become 39 = .ok (.getfield 22, 3) := by decide +kernel
theorem dX2_become_42 : decode cX2_become 42 = .ok (.iconst 0, 1) := by decide +kernel
theorem dX2_become_43 : decode cX2_become 43 = .ok (.aload_n 0, 1) := by decide +kernel
theorem dX2_become_44 : decode cX2_become 44 = .ok (.getfield 22, 3) := by decide +kernel
theorem dX2_become_47 : decode cX2_become 47 = .ok (.iconst 0, 1) := by decide +kernel
theorem dX2_become_48 : decode cX2_become 48 = .ok (.bipush 24, 2) := by decide +kernel
theorem dX2_become_5 : decode cX2_become 5 = .ok (.putfield 9, 3) := by decide +kernel
theorem dX2_become_50 : decode cX2_become 50 = .ok (.invokestatic 81, 3) := by decide +kernel
theorem dX2_become_53 : decode cX2_become 53 = .ok (.aload_n 1, 1) := by decide +kernel
theorem dX2_become_54 : decode cX2_become 54 = .ok (.getfield 25, 3) := by decide +kernel
theorem dX2_become_57 : decode cX2_become 57 = .ok (.iconst 0, 1) := by decide +kernel
theorem dX2_become_58 : decode cX2_become 58 = .ok (.aload_n 0, 1) := by decide +kernel
theorem dX2_become_59 : decode cX2_become 59 = .ok (.getfield 25, 3) := by decide +kernel
theorem dX2_become_62 : decode cX2_become 62 = .ok (.iconst 0, 1) := by decide +kernel
theorem dX2_become_63 : decode cX2_become 63 = .ok (.bipush 24, 2) := by decide +kernel
theorem dX2_become_65 : decode cX2_become 65 = .ok (.invokestatic 81, 3) := by decide +kernel
theorem dX2_become_68 : decode cX2_become 68 = .ok (.iconst 0, 1) := by decide +kernel
theorem dX2_become_69 : decode cX2_become 69 = .ok (.istore_n 2, 1) := by decide +kernel
theorem dX2_become_70 : decode cX2_become 70 = .ok (.iload_n 2, 1) := by decide +kernel
theorem dX2_become_71 : decode cX2_become 71 = .ok (.aload_n 0, 1) := by decide +kernel
theorem dX2_become_72 : decode cX2_become 72 = .ok (.getfield 9, 3) := by decide +kernel
theorem dX2_become_75 : decode cX2_become 75 = .ok (.if_icmp .ge 14, 3) := by decide +kernel
theorem dX2_become_8 : decode cX2_become 8 = .ok (.aload_n 1, 1) := by decide +kernel
theorem dX2_become_89 : decode cX2_become 89 = .ok (.return_, 1) := by decide +kernel
theorem dX2_become_9 : decode cX2_become 9 = .ok (.getfield 15, 3) := by decide +kernel
set_option maxRecDepth 20000 in
theorem in_X2_become_X2 : ∀ w ∈ wsX20, w ∈ wsX2_become := by decide +kernel
set_option maxHeartbeats 4000000 in
set_option maxRecDepth 100000 in
theorem f_X2_become (l : Launch) (D : va_G) (T : Nat → ClassId) (sz : Nat) (h0 : Nat) (o1 : Nat) (mm : Int32) (p0 : Nat) (p1 : Nat) (p2 : Nat) (p3 : Nat) (vp0 : Value) (vp1 : Value) (vp2 : Value) (q0 : Nat) (q1 : Nat) (q2 : Nat) (q3 : Nat) (vq0 : Value) (vq1 : Value) (vq2 : Value) (f0 : Nat → Int32) (f1 : Nat → Int32) (f2 : Nat → Int32) (f3 : Nat → Int32) (g0 : Nat → Int32) (g1 : Nat → Int32) (g2 : Nat → Int32) (g3 : Nat → Int32)  : Met l yX2_become wsX2_become ({ frames := 1, cells := 0, slots := 0, locals := 80 }) (pW [.ref h0, .ref o1] D T [(h0, .inr (1, [.int mm, .ref p0, .ref p1, .ref p2, .ref p3, vp0, vp1, vp2])), (o1, .inr (1, [.int 0, .ref q0, .ref q1, .ref q2, .ref q3, vq0, vq1, vq2])), (p0, .inl (T 0, 24, .inl f0)), (p1, .inl (T 0, 24, .inl f1)), (p2, .inl (T 0, 24, .inl f2)), (p3, .inl (T 0, 24, .inl f3)), (q0, .inl (T 0, 24, .inl g0)), (q1, .inl (T 0, 24, .inl g1)), (q2, .inl (T 0, 24, .inl g2)), (q3, .inl (T 0, 24, .inl g3))] sz) (va_Qv (fun (u : Unit) => True) (bW D (va_A [(h0, .inr (1, [.int mm, .ref p0, .ref p1, .ref p2, .ref p3, vp0, vp1, vp2])), (o1, .inr (1, [.int 0, .ref q0, .ref q1, .ref q2, .ref q3, vq0, vq1, vq2])), (p0, .inl (T 0, 24, .inl f0)), (p1, .inl (T 0, 24, .inl f1)), (p2, .inl (T 0, 24, .inl f2)), (p3, .inl (T 0, 24, .inl f3)), (q0, .inl (T 0, 24, .inl g0)), (q1, .inl (T 0, 24, .inl g1)), (q2, .inl (T 0, 24, .inl g2)), (q3, .inl (T 0, 24, .inl g3))] sz) (fun (u : Unit) => [(o1, .inr (1, [.int 0, .ref q0, .ref q1, .ref q2, .ref q3, vq0, vq1, vq2]))])) (va_A [(h0, .inr (1, [.int mm, .ref p0, .ref p1, .ref p2, .ref p3, vp0, vp1, vp2])), (o1, .inr (1, [.int 0, .ref q0, .ref q1, .ref q2, .ref q3, vq0, vq1, vq2])), (p0, .inl (T 0, 24, .inl f0)), (p1, .inl (T 0, 24, .inl f1)), (p2, .inl (T 0, 24, .inl f2)), (p3, .inl (T 0, 24, .inl f3)), (q0, .inl (T 0, 24, .inl g0)), (q1, .inl (T 0, 24, .inl g1)), (q2, .inl (T 0, 24, .inl g2)), (q3, .inl (T 0, 24, .inl g3))] sz)) 0 0 (va_A [(h0, .inr (1, [.int mm, .ref p0, .ref p1, .ref p2, .ref p3, vp0, vp1, vp2])), (o1, .inr (1, [.int 0, .ref q0, .ref q1, .ref q2, .ref q3, vq0, vq1, vq2])), (p0, .inl (T 0, 24, .inl f0)), (p1, .inl (T 0, 24, .inl f1)), (p2, .inl (T 0, 24, .inl f2)), (p3, .inl (T 0, 24, .inl f3)), (q0, .inl (T 0, 24, .inl g0)), (q1, .inl (T 0, 24, .inl g1)), (q2, .inl (T 0, 24, .inl g2)), (q3, .inl (T 0, 24, .inl g3))] sz) := by
  refine Met.ofW (cc := cX2_become) (maxL := 3) (ret := none) (by decide) rfl ?_
  intro p e s m args below meth c s₁ B hml hv
  obtain ⟨rfl, hsz, hP, hE, hD0⟩ := hv
  have hx := B.exec
  have hb := B.bytes
  have hr := B.returns
  have hts := atoms_spec (ws := wsX2_become) B.pre
  have hown : s.vm.findClass RX2 = some m.cls := findClass_of_methodNamed B.named
  have hlocks := B.notSynchronized
  subst hsz
  have hD := hD0.self (sz := s.heap.size)
  generalize hAe : va_A [(h0, .inr (1, [.int mm, .ref p0, .ref p1, .ref p2, .ref p3, vp0, vp1, vp2])), (o1, .inr (1, [.int 0, .ref q0, .ref q1, .ref q2, .ref q3, vq0, vq1, vq2])), (p0, .inl (T 0, 24, .inl f0)), (p1, .inl (T 0, 24, .inl f1)), (p2, .inl (T 0, 24, .inl f2)), (p3, .inl (T 0, 24, .inl f3)), (q0, .inl (T 0, 24, .inl g0)), (q1, .inl (T 0, 24, .inl g1)), (q2, .inl (T 0, 24, .inl g2)), (q3, .inl (T 0, 24, .inl g3))] s.heap.size = A at hD ⊢
  have hA : ∀ q : Nat, s.heap.size ≤ q → A q := fun q h => by rw [← hAe]; exact Or.inr h
  have hS : va_S A s.heap s.heap [] := va_S.rf
  have hP : va_P D vwCl [(h0, .inr (1, [.int mm, .ref p0, .ref p1, .ref p2, .ref p3, vp0, vp1, vp2])), (o1, .inr (1, [.int 0, .ref q0, .ref q1, .ref q2, .ref q3, vq0, vq1, vq2])), (p0, .inl (T 0, 24, .inl f0)), (p1, .inl (T 0, 24, .inl f1)), (p2, .inl (T 0, 24, .inl f2)), (p3, .inl (T 0, 24, .inl f3)), (q0, .inl (T 0, 24, .inl g0)), (q1, .inl (T 0, 24, .inl g1)), (q2, .inl (T 0, 24, .inl g2)), (q3, .inl (T 0, 24, .inl g3))] s.heap := hP
  have hl := lv_entry ([.ref h0, .ref o1]) (n := 3) (Nat.le_of_ble_eq_true rfl)
  rw [lg_entry_eq]
  generalize (lg_sl ([.ref h0, .ref o1]) ++ List.replicate (3 - (lg_sl ([.ref h0, .ref o1])).length) Slot.unset).toArray = ls at hl ⊢
  have hl : lv_has ls 3 [(0, .ref h0), (1, .ref o1)] := hl
  clear hD0
  refine lv_aload_n hx hb dX2_become_0 rfl (lv_at hl 0 rfl) ?_
  refine lv_aload_n hx hb dX2_become_1 rfl (lv_at hl 1 rfl) ?_
  refine va_get (D := D) (ci := 1) (v := .int 0) (C := RX2) (T := TX2) (N := 8) hx hb hts in_X2_become_X2 hown hE.1 hP 1 rfl rfl 0 (by decide) (hts (.fieldLink RX2 9 "ClauseBook$Clauses" "size" "I") (List.mem_of_getElem? (i := 1) rfl)) (fun _ h9 => h9) rfl dX2_become_2 ?_
  refine va_put (D := D) (ci := 1) (v := .int 0) (ty := .int) (C := RX2) (T := TX2) (N := 8) hx hb hts in_X2_become_X2 tyX2 tyX2_ok nmX2 hown hE.1 hP hD hS 0 rfl rfl 0 (by decide) (hts (.fieldLink RX2 9 "ClauseBook$Clauses" "size" "I") (List.mem_of_getElem? (i := 1) rfl)) (fun _ h9 => h9) rfl (by decide +kernel) rfl rfl (Nat.le_of_ble_eq_true rfl) dX2_become_5 (fun H locs hP hD hS => ?_)
  have hP : va_P D vwCl [(h0, .inr (1, [.int 0, .ref p0, .ref p1, .ref p2, .ref p3, vp0, vp1, vp2])), (o1, .inr (1, [.int 0, .ref q0, .ref q1, .ref q2, .ref q3, vq0, vq1, vq2])), (p0, .inl (T 0, 24, .inl f0)), (p1, .inl (T 0, 24, .inl f1)), (p2, .inl (T 0, 24, .inl f2)), (p3, .inl (T 0, 24, .inl f3)), (q0, .inl (T 0, 24, .inl g0)), (q1, .inl (T 0, 24, .inl g1)), (q2, .inl (T 0, 24, .inl g2)), (q3, .inl (T 0, 24, .inl g3))] H := hP
  have hD : va_D A [(h0, .inr (1, [.int 0, .ref p0, .ref p1, .ref p2, .ref p3, vp0, vp1, vp2])), (o1, .inr (1, [.int 0, .ref q0, .ref q1, .ref q2, .ref q3, vq0, vq1, vq2])), (p0, .inl (T 0, 24, .inl f0)), (p1, .inl (T 0, 24, .inl f1)), (p2, .inl (T 0, 24, .inl f2)), (p3, .inl (T 0, 24, .inl f3)), (q0, .inl (T 0, 24, .inl g0)), (q1, .inl (T 0, 24, .inl g1)), (q2, .inl (T 0, 24, .inl g2)), (q3, .inl (T 0, 24, .inl g3))] := hD
  refine lv_aload_n hx hb dX2_become_8 rfl (lv_at hl 1 rfl) ?_
  refine va_get (D := D) (ci := 1) (v := .ref q0) (C := RX2) (T := TX2) (N := 8) hx hb hts in_X2_become_X2 hown hE.1 hP 1 rfl rfl 1 (by decide) (hts (.fieldLink RX2 15 "ClauseBook$Clauses" "kind" "[I") (List.mem_of_getElem? (i := 2) rfl)) (fun _ h9 => h9) rfl dX2_become_9 ?_
  refine lv_iconst (v := 0) hx hb dX2_become_12 (by decide) ?_
  refine lv_aload_n hx hb dX2_become_13 rfl (lv_at hl 0 rfl) ?_
  refine va_get (D := D) (ci := 1) (v := .ref p0) (C := RX2) (T := TX2) (N := 8) hx hb hts in_X2_become_X2 hown hE.1 hP 0 rfl rfl 1 (by decide) (hts (.fieldLink RX2 15 "ClauseBook$Clauses" "kind" "[I") (List.mem_of_getElem? (i := 2) rfl)) (fun _ h9 => h9) rfl dX2_become_14 ?_
  refine lv_iconst (v := 0) hx hb dX2_become_17 (by decide) ?_
  refine lv_bipush (v := 24) hx hb dX2_become_18 (by decide) ?_
  refine va_copyi (ty := .int) hx hb (hml.trans hl.1.symm) hown (hts (.methodLink RX2 81 arraycopyName) (List.mem_of_getElem? (i := 3) rfl)) (hts (.native arraycopyName) (List.mem_of_getElem? (i := 4) rfl)) (hts (.static arraycopyName) (List.mem_of_getElem? (i := 5) rfl)) (hts (.initialized "java/lang/System") (List.mem_of_getElem? (i := 6) rfl)) hE.1 hP hD hS 6 2 0 0 rfl rfl rfl rfl rfl (by decide) (by decide) (by decide) (by decide) (by decide) (fun _ _ => rfl) (Nat.le_of_ble_eq_true rfl) (Nat.le_of_ble_eq_true rfl) dX2_become_20 (fun H locs hP hD hS => ?_)
  have hP : va_P D vwCl [(h0, .inr (1, [.int 0, .ref p0, .ref p1, .ref p2, .ref p3, vp0, vp1, vp2])), (o1, .inr (1, [.int 0, .ref q0, .ref q1, .ref q2, .ref q3, vq0, vq1, vq2])), (p0, .inl (T 0, 24, .inl (va_cpy g0 f0 0 0 24))), (p1, .inl (T 0, 24, .inl f1)), (p2, .inl (T 0, 24, .inl f2)), (p3, .inl (T 0, 24, .inl f3)), (q0, .inl (T 0, 24, .inl g0)), (q1, .inl (T 0, 24, .inl g1)), (q2, .inl (T 0, 24, .inl g2)), (q3, .inl (T 0, 24, .inl g3))] H := hP
  have hD : va_D A [(h0, .inr (1, [.int 0, .ref p0, .ref p1, .ref p2, .ref p3, vp0, vp1, vp2])), (o1, .inr (1, [.int 0, .ref q0, .ref q1, .ref q2, .ref q3, vq0, vq1, vq2])), (p0, .inl (T 0, 24, .inl (va_cpy g0 f0 0 0 24))), (p1, .inl (T 0, 24, .inl f1)), (p2, .inl (T 0, 24, .inl f2)), (p3, .inl (T 0, 24, .inl f3)), (q0, .inl (T 0, 24, .inl g0)), (q1, .inl (T 0, 24, .inl g1)), (q2, .inl (T 0, 24, .inl g2)), (q3, .inl (T 0, 24, .inl g3))] := hD
  refine lv_aload_n hx hb dX2_become_23 rfl (lv_at hl 1 rfl) ?_
  refine va_get (D := D) (ci := 1) (v := .ref q1) (C := RX2) (T := TX2) (N := 8) hx hb hts in_X2_become_X2 hown hE.1 hP 1 rfl rfl 2 (by decide) (hts (.fieldLink RX2 19 "ClauseBook$Clauses" "n" "[I") (List.mem_of_getElem? (i := 7) rfl)) (fun _ h9 => h9) rfl dX2_become_24 ?_
  refine lv_iconst (v := 0) hx hb dX2_become_27 (by decide) ?_
  refine lv_aload_n hx hb dX2_become_28 rfl (lv_at hl 0 rfl) ?_
  refine va_get (D := D) (ci := 1) (v := .ref p1) (C := RX2) (T := TX2) (N := 8) hx hb hts in_X2_become_X2 hown hE.1 hP 0 rfl rfl 2 (by decide) (hts (.fieldLink RX2 19 "ClauseBook$Clauses" "n" "[I") (List.mem_of_getElem? (i := 7) rfl)) (fun _ h9 => h9) rfl dX2_become_29 ?_
  refine lv_iconst (v := 0) hx hb dX2_become_32 (by decide) ?_
  refine lv_bipush (v := 24) hx hb dX2_become_33 (by decide) ?_
  refine va_copyi (ty := .int) hx hb (hml.trans hl.1.symm) hown (hts (.methodLink RX2 81 arraycopyName) (List.mem_of_getElem? (i := 3) rfl)) (hts (.native arraycopyName) (List.mem_of_getElem? (i := 4) rfl)) (hts (.static arraycopyName) (List.mem_of_getElem? (i := 5) rfl)) (hts (.initialized "java/lang/System") (List.mem_of_getElem? (i := 6) rfl)) hE.1 hP hD hS 7 3 0 0 rfl rfl rfl rfl rfl (by decide) (by decide) (by decide) (by decide) (by decide) (fun _ _ => rfl) (Nat.le_of_ble_eq_true rfl) (Nat.le_of_ble_eq_true rfl) dX2_become_35 (fun H locs hP hD hS => ?_)
  have hP : va_P D vwCl [(h0, .inr (1, [.int 0, .ref p0, .ref p1, .ref p2, .ref p3, vp0, vp1, vp2])), (o1, .inr (1, [.int 0, .ref q0, .ref q1, .ref q2, .ref q3, vq0, vq1, vq2])), (p0, .inl (T 0, 24, .inl (va_cpy g0 f0 0 0 24))), (p1, .inl (T 0, 24, .inl (va_cpy g1 f1 0 0 24))), (p2, .inl (T 0, 24, .inl f2)), (p3, .inl (T 0, 24, .inl f3)), (q0, .inl (T 0, 24, .inl g0)), (q1, .inl (T 0, 24, .inl g1)), (q2, .inl (T 0, 24, .inl g2)), (q3, .inl (T 0, 24, .inl g3))] H := hP
  have hD : va_D A [(h0, .inr (1, [.int 0, .ref p0, .ref p1, .ref p2, .ref p3, vp0, vp1, vp2])), (o1, .inr (1, [.int 0, .ref q0, .ref q1, .ref q2, .ref q3, vq0, vq1, vq2])), (p0, .inl (T 0, 24, .inl (va_cpy g0 f0 0 0 24))), (p1, .inl (T 0, 24, .inl (va_cpy g1 f1 0 0 24))), (p2, .inl (T 0, 24, .inl f2)), (p3, .inl (T 0, 24, .inl f3)), (q0, .inl (T 0, 24, .inl g0)), (q1, .inl (T 0, 24, .inl g1)), (q2, .inl (T 0, 24, .inl g2)), (q3, .inl (T 0, 24, .inl g3))] := hD
  refine lv_aload_n hx hb dX2_become_38 rfl (lv_at hl 1 rfl) ?_
  refine va_get (D := D) (ci := 1) (v := .ref q2) (C := RX2) (T := TX2) (N := 8) hx hb hts in_X2_become_X2 hown hE.1 hP 1 rfl rfl 3 (by decide) (hts (.fieldLink RX2 22 "ClauseBook$Clauses" "c" "[I") (List.mem_of_getElem? (i := 8) rfl)) (fun _ h9 => h9) rfl dX2_become_39 ?_
  refine lv_iconst (v := 0) hx hb dX2_become_42 (by decide) ?_
  refine lv_aload_n hx hb dX2_become_43 rfl (lv_at hl 0 rfl) ?_
  refine va_get (D := D) (ci := 1) (v := .ref p2) (C := RX2) (T := TX2) (N := 8) hx hb hts in_X2_become_X2 hown hE.1 hP 0 rfl rfl 3 (by decide) (hts (.fieldLink RX2 22 "ClauseBook$Clauses" "c" "[I") (List.mem_of_getElem? (i := 8) rfl)) (fun _ h9 => h9) rfl dX2_become_44 ?_
  refine lv_iconst (v := 0) hx hb dX2_become_47 (by decide) ?_
  refine lv_bipush (v := 24) hx hb dX2_become_48 (by decide) ?_
  refine va_copyi (ty := .int) hx hb (hml.trans hl.1.symm) hown (hts (.methodLink RX2 81 arraycopyName) (List.mem_of_getElem? (i := 3) rfl)) (hts (.native arraycopyName) (List.mem_of_getElem? (i := 4) rfl)) (hts (.static arraycopyName) (List.mem_of_getElem? (i := 5) rfl)) (hts (.initialized "java/lang/System") (List.mem_of_getElem? (i := 6) rfl)) hE.1 hP hD hS 8 4 0 0 rfl rfl rfl rfl rfl (by decide) (by decide) (by decide) (by decide) (by decide) (fun _ _ => rfl) (Nat.le_of_ble_eq_true rfl) (Nat.le_of_ble_eq_true rfl) dX2_become_50 (fun H locs hP hD hS => ?_)
  have hP : va_P D vwCl [(h0, .inr (1, [.int 0, .ref p0, .ref p1, .ref p2, .ref p3, vp0, vp1, vp2])), (o1, .inr (1, [.int 0, .ref q0, .ref q1, .ref q2, .ref q3, vq0, vq1, vq2])), (p0, .inl (T 0, 24, .inl (va_cpy g0 f0 0 0 24))), (p1, .inl (T 0, 24, .inl (va_cpy g1 f1 0 0 24))), (p2, .inl (T 0, 24, .inl (va_cpy g2 f2 0 0 24))), (p3, .inl (T 0, 24, .inl f3)), (q0, .inl (T 0, 24, .inl g0)), (q1, .inl (T 0, 24, .inl g1)), (q2, .inl (T 0, 24, .inl g2)), (q3, .inl (T 0, 24, .inl g3))] H := hP
  have hD : va_D A [(h0, .inr (1, [.int 0, .ref p0, .ref p1, .ref p2, .ref p3, vp0, vp1, vp2])), (o1, .inr (1, [.int 0, .ref q0, .ref q1, .ref q2, .ref q3, vq0, vq1, vq2])), (p0, .inl (T 0, 24, .inl (va_cpy g0 f0 0 0 24))), (p1, .inl (T 0, 24, .inl (va_cpy g1 f1 0 0 24))), (p2, .inl (T 0, 24, .inl (va_cpy g2 f2 0 0 24))), (p3, .inl (T 0, 24, .inl f3)), (q0, .inl (T 0, 24, .inl g0)), (q1, .inl (T 0, 24, .inl g1)), (q2, .inl (T 0, 24, .inl g2)), (q3, .inl (T 0, 24, .inl g3))] := hD
  refine lv_aload_n hx hb dX2_become_53 rfl (lv_at hl 1 rfl) ?_
  refine va_get (D := D) (ci := 1) (v := .ref q3) (C := RX2) (T := TX2) (N := 8) hx hb hts in_X2_become_X2 hown hE.1 hP 1 rfl rfl 4 (by decide) (hts (.fieldLink RX2 25 "ClauseBook$Clauses" "d" "[I") (List.mem_of_getElem? (i := 9) rfl)) (fun _ h9 => h9) rfl dX2_become_54 ?_
  refine lv_iconst (v := 0) hx hb dX2_become_57 (by decide) ?_
  refine lv_aload_n hx hb dX2_become_58 rfl (lv_at hl 0 rfl) ?_
  refine va_get (D := D) (ci := 1) (v := .ref p3) (C := RX2) (T := TX2) (N := 8) hx hb hts in_X2_become_X2 hown hE.1 hP 0 rfl rfl 4 (by decide) (hts (.fieldLink RX2 25 "ClauseBook$Clauses" "d" "[I") (List.mem_of_getElem? (i := 9) rfl)) (fun _ h9 => h9) rfl dX2_become_59 ?_
  refine lv_iconst (v := 0) hx hb dX2_become_62 (by decide) ?_
  refine lv_bipush (v := 24) hx hb dX2_become_63 (by decide) ?_
  refine va_copyi (ty := .int) hx hb (hml.trans hl.1.symm) hown (hts (.methodLink RX2 81 arraycopyName) (List.mem_of_getElem? (i := 3) rfl)) (hts (.native arraycopyName) (List.mem_of_getElem? (i := 4) rfl)) (hts (.static arraycopyName) (List.mem_of_getElem? (i := 5) rfl)) (hts (.initialized "java/lang/System") (List.mem_of_getElem? (i := 6) rfl)) hE.1 hP hD hS 9 5 0 0 rfl rfl rfl rfl rfl (by decide) (by decide) (by decide) (by decide) (by decide) (fun _ _ => rfl) (Nat.le_of_ble_eq_true rfl) (Nat.le_of_ble_eq_true rfl) dX2_become_65 (fun H locs hP hD hS => ?_)
  have hP : va_P D vwCl [(h0, .inr (1, [.int 0, .ref p0, .ref p1, .ref p2, .ref p3, vp0, vp1, vp2])), (o1, .inr (1, [.int 0, .ref q0, .ref q1, .ref q2, .ref q3, vq0, vq1, vq2])), (p0, .inl (T 0, 24, .inl (va_cpy g0 f0 0 0 24))), (p1, .inl (T 0, 24, .inl (va_cpy g1 f1 0 0 24))), (p2, .inl (T 0, 24, .inl (va_cpy g2 f2 0 0 24))), (p3, .inl (T 0, 24, .inl (va_cpy g3 f3 0 0 24))), (q0, .inl (T 0, 24, .inl g0)), (q1, .inl (T 0, 24, .inl g1)), (q2, .inl (T 0, 24, .inl g2)), (q3, .inl (T 0, 24, .inl g3))] H := hP
  have hD : va_D A [(h0, .inr (1, [.int 0, .ref p0, .ref p1, .ref p2, .ref p3, vp0, vp1, vp2])), (o1, .inr (1, [.int 0, .ref q0, .ref q1, .ref q2, .ref q3, vq0, vq1, vq2])), (p0, .inl (T 0, 24, .inl (va_cpy g0 f0 0 0 24))), (p1, .inl (T 0, 24, .inl (va_cpy g1 f1 0 0 24))), (p2, .inl (T 0, 24, .inl (va_cpy g2 f2 0 0 24))), (p3, .inl (T 0, 24, .inl (va_cpy g3 f3 0 0 24))), (q0, .inl (T 0, 24, .inl g0)), (q1, .inl (T 0, 24, .inl g1)), (q2, .inl (T 0, 24, .inl g2)), (q3, .inl (T 0, 24, .inl g3))] := hD
  refine lv_iconst (v := 0) hx hb dX2_become_68 (by decide) ?_
  refine lv_istore_n (lv' := [(2, .int 0), (0, .ref h0), (1, .ref o1)]) hx hb dX2_become_69 rfl hl (by decide) rfl (fun ls hl => ?_)
  refine lv_iload_n hx hb dX2_become_70 rfl (lv_at hl 0 rfl) ?_
  refine lv_aload_n hx hb dX2_become_71 rfl (lv_at hl 1 rfl) ?_
  refine va_get (D := D) (ci := 1) (v := .int 0) (C := RX2) (T := TX2) (N := 8) hx hb hts in_X2_become_X2 hown hE.1 hP 0 rfl rfl 0 (by decide) (hts (.fieldLink RX2 9 "ClauseBook$Clauses" "size" "I") (List.mem_of_getElem? (i := 1) rfl)) (fun _ h9 => h9) rfl dX2_become_72 ?_
  refine lv_icmp_ge (tgt := 89) hx hb dX2_become_75 (by decide) (fun _ => ?_) (fun c9 => absurd c9 (by decide))
  exact W.vret hx hb hr (fun t ht hW => ⟨⟨(), rfl, trivial, by rw [ht]; exact hP.sub [1] rfl, hD.sub [1] (by decide) rfl⟩, hS.F ht⟩) hS.2.2 dX2_become_89
