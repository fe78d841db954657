/-- what VALUE depends on is as it was (S), or the age is another -/
def agW (S : Prop) (a a' : Int32) : Prop := (S ∧ a' = a) ∨ a' = a + 1
theorem all7 {P : Nat → Prop} (h0 : P 0) (h1 : P 1) (h2 : P 2) (h3 : P 3) (h4 : P 4) (h5 : P 5) (h6 : P 6) : ∀ j : Nat, j < 7 → P j := by
  intro j hj
  match j, hj with
  | 0, _ => exact h0
  | 1, _ => exact h1
  | 2, _ => exact h2
  | 3, _ => exact h3
  | 4, _ => exact h4
  | 5, _ => exact h5
  | 6, _ => exact h6
  | j + 7, hj => omega
theorem dX11_forget_0 : decode cX11_forget 0 = .ok (.aload_n 0, 1) := by decide +kernel
theorem dX11_forget_1 : decode cX11_forget 1 = .ok (.dup, 1) := by decide +kernel
theorem dX11_forget_10 : decode cX11_forget 10 = .ok (.return_, 1) := by decide +kernel
theorem dX11_forget_2 : decode cX11_forget 2 = .ok (.getfield 22, 3) := by decide +kernel
theorem dX11_forget_5 : decode cX11_forget 5 = .ok (.iconst 1, 1) := by decide +kernel
theorem dX11_forget_6 : decode cX11_forget 6 = .ok (.iadd, 1) := by decide +kernel
theorem dX11_forget_7 : decode cX11_forget 7 = .ok (.putfield 22, 3) := by decide +kernel
set_option maxRecDepth 20000 in
theorem in_X11_forget_X11 : ∀ w ∈ wsX110, w ∈ wsX11_forget := sub_r [2, 3, 4, 5, 6, 7] rfl
set_option maxHeartbeats 4000000 in
set_option maxRecDepth 100000 in
theorem c_X11_forget (l : Launch) (D : va_G) (T : Nat → ClassId) (sz : Nat) (h0 : Nat) (v0 : Value) (v1 : Value) (v2 : Value) (v3 : Value) (v4 : Value) (n : Int32)  : Met l yX11_forget wsX11_forget ({ frames := 0, cells := 0, slots := 0, locals := 0 }) (pW [.ref h0] D T [(h0, .inr (8, [v0, v1, v2, v3, v4, .int n]))] sz) (va_Qv (fun (u : Int32) => u = n + 1) (bW D (va_A [(h0, .inr (8, [v0, v1, v2, v3, v4, .int n]))] sz) (fun (u : Int32) => [(h0, .inr (8, [v0, v1, v2, v3, v4, .int u]))])) (va_A [(h0, .inr (8, [v0, v1, v2, v3, v4, .int n]))] sz)) 0 0 (va_A [(h0, .inr (8, [v0, v1, v2, v3, v4, .int n]))] sz) := by
  refine Met.ofW (cc := cX11_forget) (maxL := 1) (ret := none) (by decide +kernel) rfl ?_
  intro p e s m args below meth c s₁ B hml hv
  obtain ⟨rfl, hsz, hP, hE, hD0⟩ := hv
  have hx := B.exec
  have hb := B.bytes
  have hr := B.returns
  have hts := atoms_spec (ws := wsX11_forget) B.pre
  have hown : s.vm.findClass RX11 = some m.cls := findClass_of_methodNamed B.named
  have hlocks := B.notSynchronized
  subst hsz
  have hD := hD0.self (sz := s.heap.size)
  generalize hAe : va_A [(h0, .inr (8, [v0, v1, v2, v3, v4, .int n]))] s.heap.size = A at hD ⊢
  have hA : ∀ q : Nat, s.heap.size ≤ q → A q := fun q h => by rw [← hAe]; exact Or.inr h
  have hS : va_S A s.heap s.heap [] := va_S.rf
  have hP : va_P D vwCl [(h0, .inr (8, [v0, v1, v2, v3, v4, .int n]))] s.heap := hP
  have hl := lv_entry ([.ref h0]) (n := 1) (Nat.le_of_ble_eq_true rfl)
  rw [lg_entry_eq]
  generalize (lg_sl ([.ref h0]) ++ List.replicate (1 - (lg_sl ([.ref h0])).length) Slot.unset).toArray = ls at hl ⊢
  have hl : lv_has ls 1 [(0, .ref h0)] := hl
  clear hD0
  refine lv_aload_n hx hb dX11_forget_0 rfl (lv_at hl 0 rfl) ?_
  refine lv_dup hx hb dX11_forget_1 rfl ?_
  refine va_get (D := D) (ci := 8) (v := .int n) (C := RX11) (T := TX11) (N := 6) hx hb hts in_X11_forget_X11 hown hE.1 hP 0 rfl rfl 5 (by decide +kernel) (hts (.fieldLink RX11 22 "ClauseBook$Worth" "age" "I") (List.mem_of_getElem? (i := 1) rfl)) (fun _ h9 => h9) rfl dX11_forget_2 ?_
  refine lv_iconst (v := 1) hx hb dX11_forget_5 (by decide +kernel) ?_
  refine lv_iadd hx hb dX11_forget_6 ?_
  refine lv_topi (fun z_1 ez_1 => ?_)
  refine va_put (D := D) (ci := 8) (v := .int z_1) (ty := .int) (C := RX11) (T := TX11) (N := 6) hx hb hts in_X11_forget_X11 tyX11 tyX11_ok nmX11 hown hE.1 hP hD hS 0 rfl rfl 5 (by decide +kernel) (hts (.fieldLink RX11 22 "ClauseBook$Worth" "age" "I") (List.mem_of_getElem? (i := 1) rfl)) (fun _ h9 => h9) rfl (by decide +kernel) rfl rfl (Nat.le_of_ble_eq_true rfl) dX11_forget_7 (fun H locs hP hD hS => ?_)
  obtain ⟨hP, hD⟩ := wPD [(h0, .inr (8, [v0, v1, v2, v3, v4, .int z_1]))] hP hD rfl
  exact W.vret hx hb hr (fun t ht hW => ⟨⟨z_1, rfl, (show z_1 = n + 1 from ez_1), by rw [ht]; exact hP.sub [0] rfl, hD.sub [0] (by decide +kernel) rfl⟩, hS.F ht⟩) hS.2.2 dX11_forget_10
theorem dX12_start_0 : decode cX12_start 0 = .ok (.iload_n 1, 1) := by decide +kernel
theorem dX12_start_1 : decode cX12_start 1 = .ok (.bipush (-99), 2) := by decide +kernel
theorem dX12_start_11 : decode cX12_start 11 = .ok (.iload_n 2, 1) := by decide +kernel
theorem dX12_start_12 : decode cX12_start 12 = .ok (.iconst 0, 1) := by decide +kernel
theorem dX12_start_13 : decode cX12_start 13 = .ok (.bipush 9, 2) := by decide +kernel
theorem dX12_start_15 : decode cX12_start 15 = .ok (.invokestatic 77, 3) := by decide +kernel
theorem dX12_start_18 : decode cX12_start 18 = .ok (.ifCond .eq 13, 3) := by decide +kernel
theorem dX12_start_21 : decode cX12_start 21 = .ok (.iload_n 3, 1) := by decide +kernel
theorem dX12_start_22 : decode cX12_start 22 = .ok (.iconst 0, 1) := by decide +kernel
theorem dX12_start_23 : decode cX12_start 23 = .ok (.bipush 9, 2) := by decide +kernel
theorem dX12_start_25 : decode cX12_start 25 = .ok (.invokestatic 77, 3) := by decide +kernel
theorem dX12_start_28 : decode cX12_start 28 = .ok (.ifCond .ne 6, 3) := by decide +kernel
theorem dX12_start_3 : decode cX12_start 3 = .ok (.bipush 99, 2) := by decide +kernel
theorem dX12_start_31 : decode cX12_start 31 = .ok (.bipush (-2), 2) := by decide +kernel
theorem dX12_start_33 : decode cX12_start 33 = .ok (.ireturn, 1) := by decide +kernel
theorem dX12_start_34 : decode cX12_start 34 = .ok (.aload_n 0, 1) := by decide +kernel
theorem dX12_start_35 : decode cX12_start 35 = .ok (.getfield 27, 3) := by decide +kernel
theorem dX12_start_38 : decode cX12_start 38 = .ok (.iload_n 1, 1) := by decide +kernel
theorem dX12_start_39 : decode cX12_start 39 = .ok (.putfield 81, 3) := by decide +kernel
theorem dX12_start_42 : decode cX12_start 42 = .ok (.aload_n 0, 1) := by decide +kernel
theorem dX12_start_43 : decode cX12_start 43 = .ok (.getfield 27, 3) := by decide +kernel
theorem dX12_start_46 : decode cX12_start 46 = .ok (.iload_n 2, 1) := by decide +kernel
theorem dX12_start_47 : decode cX12_start 47 = .ok (.putfield 87, 3) := by decide +kernel
theorem dX12_start_5 : decode cX12_start 5 = .ok (.invokestatic 77, 3) := by decide +kernel
theorem dX12_start_50 : decode cX12_start 50 = .ok (.aload_n 0, 1) := by decide +kernel
theorem dX12_start_51 : decode cX12_start 51 = .ok (.getfield 27, 3) := by decide +kernel
theorem dX12_start_54 : decode cX12_start 54 = .ok (.iload_n 3, 1) := by decide +kernel
theorem dX12_start_55 : decode cX12_start 55 = .ok (.putfield 90, 3) := by decide +kernel
theorem dX12_start_58 : decode cX12_start 58 = .ok (.aload_n 0, 1) := by decide +kernel
theorem dX12_start_59 : decode cX12_start 59 = .ok (.getfield 43, 3) := by decide +kernel
theorem dX12_start_62 : decode cX12_start 62 = .ok (.invokevirtual 93, 3) := by decide +kernel
theorem dX12_start_65 : decode cX12_start 65 = .ok (.iconst 1, 1) := by decide +kernel
theorem dX12_start_66 : decode cX12_start 66 = .ok (.ireturn, 1) := by decide +kernel
theorem dX12_start_8 : decode cX12_start 8 = .ok (.ifCond .eq 23, 3) := by decide +kernel
set_option maxRecDepth 20000 in
theorem ggX12_start_X11_forget : GoodIn wsX12_start wsX11_forget := goodIn_r _ [14, 15, 34, 35, 36, 37, 38, 39] rfl (by decide +kernel)
set_option maxRecDepth 20000 in
theorem ggX12_start_X12_within : GoodIn wsX12_start wsX12_within := goodIn_r _ [9] rfl (by decide +kernel)
set_option maxRecDepth 20000 in
theorem gX12_start_X11_forget : GoodIn wsX12_start (wsV RX12 93 RX11 yX11_forget wsX11_forget) := goodIn_app (goodIn_r _ [10, 11, 12, 13] rfl (by decide +kernel)) ggX12_start_X11_forget
set_option maxRecDepth 20000 in
theorem gX12_start_X12_within : GoodIn wsX12_start (va_wsS RX12 77 yX12_within wsX12_within) := goodIn_app (goodIn_of _ (by decide +kernel)) ggX12_start_X12_within
theorem hv_X11_forget : yX11_forget.cls = RX11 ∧ yX11_forget.cls ≠ "java/lang/invoke/MethodHandle" ∧ yX11_forget.cls ≠ "java/lang/invoke/VarHandle" ∧ (parseMethodDescriptor yX11_forget.desc).map (fun d => d.parameters.length) = some 0 := by decide +kernel
set_option maxRecDepth 20000 in
theorem in_X12_start_X12 : ∀ w ∈ wsX120, w ∈ wsX12_start := sub_r [16, 17, 18, 19, 20, 21, 22, 23, 24, 25, 26] rfl
set_option maxRecDepth 20000 in
theorem in_X12_start_X8 : ∀ w ∈ wsX80, w ∈ wsX12_start := sub_r [27, 28, 29, 30, 31, 32, 33] rfl
set_option maxHeartbeats 4000000 in
set_option maxRecDepth 100000 in
theorem c_X12_start (l : Launch) (D : va_G) (T : Nat → ClassId) (sz : Nat) (h0 : Nat) (h1 : Nat) (h2 : Nat) (fs0 : List Value) (l9 : Nat → Int32) (v0 : Value) (v1 : Value) (v2 : Value) (v3 : Value) (v4 : Value) (n : Int32) (x1 : Int32) (x2 : Int32) (x3 : Int32) (e0_3 : fs0[3]? = some (.ref h1)) (e0_6 : fs0[6]? = some (.ref h2)) : Met l yX12_start wsX12_start ({ frames := 1, cells := 0, slots := 0, locals := 22 }) (pW [.ref h0, .int x1, .int x2, .int x3] D T [(h0, .inr (9, fs0)), (h1, .inr (5, [.int (l9 0), .int (l9 1), .int (l9 2), .int (l9 3), .int (l9 4), .int (l9 5), .int (l9 6)])), (h2, .inr (8, [v0, v1, v2, v3, v4, .int n]))] sz) (va_Qi (fun (r : Int32) (u : Nat → Int32) => r = sp_start x1 x2 x3 ∧ ((r = 1 → u 0 = x1 ∧ u 1 = x2 ∧ u 2 = x3) ∧ (¬ r = 1 → u 0 = l9 0 ∧ u 1 = l9 1 ∧ u 2 = l9 2)) ∧ (u 3 = l9 3 ∧ u 4 = l9 4 ∧ u 5 = l9 5 ∧ u 6 = l9 6) ∧ agW (∀ j : Nat, j < 7 → u j = l9 j) n (u 7)) (bW D (va_A [(h0, .inr (9, fs0)), (h1, .inr (5, [.int (l9 0), .int (l9 1), .int (l9 2), .int (l9 3), .int (l9 4), .int (l9 5), .int (l9 6)])), (h2, .inr (8, [v0, v1, v2, v3, v4, .int n]))] sz) (fun (u : Nat → Int32) => [(h0, .inr (9, fs0)), (h1, .inr (5, [.int (u 0), .int (u 1), .int (u 2), .int (u 3), .int (u 4), .int (u 5), .int (u 6)])), (h2, .inr (8, [v0, v1, v2, v3, v4, .int (u 7)]))])) (va_A [(h0, .inr (9, fs0)), (h1, .inr (5, [.int (l9 0), .int (l9 1), .int (l9 2), .int (l9 3), .int (l9 4), .int (l9 5), .int (l9 6)])), (h2, .inr (8, [v0, v1, v2, v3, v4, .int n]))] sz)) 0 0 (va_A [(h0, .inr (9, fs0)), (h1, .inr (5, [.int (l9 0), .int (l9 1), .int (l9 2), .int (l9 3), .int (l9 4), .int (l9 5), .int (l9 6)])), (h2, .inr (8, [v0, v1, v2, v3, v4, .int n]))] sz) := by
  refine Met.ofW (cc := cX12_start) (maxL := 4) (ret := (some .int)) (by decide +kernel) rfl ?_
  intro p e s m args below meth c s₁ B hml hv
  obtain ⟨rfl, hsz, hP, hE, hD0⟩ := hv
  have hx := B.exec
  have hb := B.bytes
  have hr := B.returns
  have hts := atoms_spec (ws := wsX12_start) B.pre
  have hown : s.vm.findClass RX12 = some m.cls := findClass_of_methodNamed B.named
  have hlocks := B.notSynchronized
  subst hsz
  have hD := hD0.self (sz := s.heap.size)
  generalize hAe : va_A [(h0, .inr (9, fs0)), (h1, .inr (5, [.int (l9 0), .int (l9 1), .int (l9 2), .int (l9 3), .int (l9 4), .int (l9 5), .int (l9 6)])), (h2, .inr (8, [v0, v1, v2, v3, v4, .int n]))] s.heap.size = A at hD ⊢
  have hA : ∀ q : Nat, s.heap.size ≤ q → A q := fun q h => by rw [← hAe]; exact Or.inr h
  have hS : va_S A s.heap s.heap [] := va_S.rf
  have hP : va_P D vwCl [(h0, .inr (9, fs0)), (h1, .inr (5, [.int (l9 0), .int (l9 1), .int (l9 2), .int (l9 3), .int (l9 4), .int (l9 5), .int (l9 6)])), (h2, .inr (8, [v0, v1, v2, v3, v4, .int n]))] s.heap := hP
  have hl := lv_entry ([.ref h0, .int x1, .int x2, .int x3]) (n := 4) (Nat.le_of_ble_eq_true rfl)
  rw [lg_entry_eq]
  generalize (lg_sl ([.ref h0, .int x1, .int x2, .int x3]) ++ List.replicate (4 - (lg_sl ([.ref h0, .int x1, .int x2, .int x3])).length) Slot.unset).toArray = ls at hl ⊢
  have hl : lv_has ls 4 [(0, .ref h0), (1, .int x1), (2, .int x2), (3, .int x3)] := hl
  clear hD0
  refine lv_iload_n hx hb dX12_start_0 rfl (lv_at hl 1 rfl) ?_
  refine lv_bipush (v := (-99)) hx hb dX12_start_1 (by decide +kernel) ?_
  refine lv_bipush (v := 99) hx hb dX12_start_3 (by decide +kernel) ?_
  refine vp_callSi (W.runS (As := [.int x1, .int (-99), .int 99]) (rest := []) ⟨hx, hb, hml, hown, hts⟩ (c_X12_within l D T x1 (-99) 99 (-99) 99 (by decide +kernel) (by decide +kernel)) (va_cwS 3 hts gX12_start_X12_within rfl rfl rfl hs_X12_within ⟨Nat.le_of_ble_eq_true rfl, Nat.le_of_ble_eq_true rfl⟩) (pR_S hP hE [] rfl) rfl rfl hl.1 rfl (lv_room (Nat.le_of_ble_eq_true rfl)) dX12_start_5 ⟨Nat.le_of_ble_eq_true rfl, Nat.le_of_ble_eq_true rfl⟩) (fun r_1 hr_1 => ?_)
  rcases bool_post hr_1 with ⟨c_2, rfl⟩ | ⟨c_2, rfl⟩
  · refine lv_if_eq (tgt := 31) hx hb dX12_start_8 (by decide +kernel) (fun c9 => absurd c9 (by decide +kernel)) (fun _ => ?_)
    refine lv_iload_n hx hb dX12_start_11 rfl (lv_at hl 2 rfl) ?_
    refine lv_iconst (v := 0) hx hb dX12_start_12 (by decide +kernel) ?_
    refine lv_bipush (v := 9) hx hb dX12_start_13 (by decide +kernel) ?_
    refine vp_callSi (W.runS (As := [.int x2, .int 0, .int 9]) (rest := []) ⟨hx, hb, hml, hown, hts⟩ (c_X12_within l D T x2 0 9 0 9 (by decide +kernel) (by decide +kernel)) (va_cwS 3 hts gX12_start_X12_within rfl rfl rfl hs_X12_within ⟨Nat.le_of_ble_eq_true rfl, Nat.le_of_ble_eq_true rfl⟩) (pR_S hP hE [] rfl) rfl rfl hl.1 rfl (lv_room (Nat.le_of_ble_eq_true rfl)) dX12_start_15 ⟨Nat.le_of_ble_eq_true rfl, Nat.le_of_ble_eq_true rfl⟩) (fun r_3 hr_3 => ?_)
    rcases bool_post hr_3 with ⟨c_4, rfl⟩ | ⟨c_4, rfl⟩
    · refine lv_if_eq (tgt := 31) hx hb dX12_start_18 (by decide +kernel) (fun c9 => absurd c9 (by decide +kernel)) (fun _ => ?_)
      refine lv_iload_n hx hb dX12_start_21 rfl (lv_at hl 3 rfl) ?_
      refine lv_iconst (v := 0) hx hb dX12_start_22 (by decide +kernel) ?_
      refine lv_bipush (v := 9) hx hb dX12_start_23 (by decide +kernel) ?_
      refine vp_callSi (W.runS (As := [.int x3, .int 0, .int 9]) (rest := []) ⟨hx, hb, hml, hown, hts⟩ (c_X12_within l D T x3 0 9 0 9 (by decide +kernel) (by decide +kernel)) (va_cwS 3 hts gX12_start_X12_within rfl rfl rfl hs_X12_within ⟨Nat.le_of_ble_eq_true rfl, Nat.le_of_ble_eq_true rfl⟩) (pR_S hP hE [] rfl) rfl rfl hl.1 rfl (lv_room (Nat.le_of_ble_eq_true rfl)) dX12_start_25 ⟨Nat.le_of_ble_eq_true rfl, Nat.le_of_ble_eq_true rfl⟩) (fun r_5 hr_5 => ?_)
      rcases bool_post hr_5 with ⟨c_6, rfl⟩ | ⟨c_6, rfl⟩
      · refine lv_if_ne (tgt := 34) hx hb dX12_start_28 (by decide +kernel) (fun _ => ?_) (fun c9 => absurd c9 (by decide +kernel))
        refine lv_aload_n hx hb dX12_start_34 rfl (lv_at hl 0 rfl) ?_
        refine va_get (D := D) (ci := 9) (v := .ref h1) (C := RX12) (T := TX12) (N := 11) hx hb hts in_X12_start_X12 hown hE.1 hP 0 rfl rfl 3 (by decide +kernel) (hts (.fieldLink RX12 27 "ClauseBook" "lattice" "LClauseBook$Lattice;") (List.mem_of_getElem? (i := 1) rfl)) (fun _ h9 => h9) e0_3 dX12_start_35 ?_
        refine lv_iload_n hx hb dX12_start_38 rfl (lv_at hl 1 rfl) ?_
        refine va_put (D := D) (ci := 5) (v := .int x1) (ty := .int) (C := RX8) (T := TX8) (N := 7) hx hb hts in_X12_start_X8 tyX8 tyX8_ok nmX8 hown hE.1 hP hD hS 1 rfl rfl 0 (by decide +kernel) (hts (.fieldLink RX12 81 "ClauseBook$Lattice" "start" "I") (List.mem_of_getElem? (i := 2) rfl)) (fun _ h9 => h9) rfl (by decide +kernel) rfl rfl (Nat.le_of_ble_eq_true rfl) dX12_start_39 (fun H locs hP hD hS => ?_)
        obtain ⟨hP, hD⟩ := wPD [(h0, .inr (9, fs0)), (h1, .inr (5, [.int x1, .int (l9 1), .int (l9 2), .int (l9 3), .int (l9 4), .int (l9 5), .int (l9 6)])), (h2, .inr (8, [v0, v1, v2, v3, v4, .int n]))] hP hD rfl
        refine lv_aload_n hx hb dX12_start_42 rfl (lv_at hl 0 rfl) ?_
        refine va_get (D := D) (ci := 9) (v := .ref h1) (C := RX12) (T := TX12) (N := 11) hx hb hts in_X12_start_X12 hown hE.1 hP 0 rfl rfl 3 (by decide +kernel) (hts (.fieldLink RX12 27 "ClauseBook" "lattice" "LClauseBook$Lattice;") (List.mem_of_getElem? (i := 1) rfl)) (fun _ h9 => h9) e0_3 dX12_start_43 ?_
        refine lv_iload_n hx hb dX12_start_46 rfl (lv_at hl 2 rfl) ?_
        refine va_put (D := D) (ci := 5) (v := .int x2) (ty := .int) (C := RX8) (T := TX8) (N := 7) hx hb hts in_X12_start_X8 tyX8 tyX8_ok nmX8 hown hE.1 hP hD hS 1 rfl rfl 1 (by decide +kernel) (hts (.fieldLink RX12 87 "ClauseBook$Lattice" "up" "I") (List.mem_of_getElem? (i := 3) rfl)) (fun _ h9 => h9) rfl (by decide +kernel) rfl rfl (Nat.le_of_ble_eq_true rfl) dX12_start_47 (fun H locs hP hD hS => ?_)
        obtain ⟨hP, hD⟩ := wPD [(h0, .inr (9, fs0)), (h1, .inr (5, [.int x1, .int x2, .int (l9 2), .int (l9 3), .int (l9 4), .int (l9 5), .int (l9 6)])), (h2, .inr (8, [v0, v1, v2, v3, v4, .int n]))] hP hD rfl
        refine lv_aload_n hx hb dX12_start_50 rfl (lv_at hl 0 rfl) ?_
        refine va_get (D := D) (ci := 9) (v := .ref h1) (C := RX12) (T := TX12) (N := 11) hx hb hts in_X12_start_X12 hown hE.1 hP 0 rfl rfl 3 (by decide +kernel) (hts (.fieldLink RX12 27 "ClauseBook" "lattice" "LClauseBook$Lattice;") (List.mem_of_getElem? (i := 1) rfl)) (fun _ h9 => h9) e0_3 dX12_start_51 ?_
        refine lv_iload_n hx hb dX12_start_54 rfl (lv_at hl 3 rfl) ?_
        refine va_put (D := D) (ci := 5) (v := .int x3) (ty := .int) (C := RX8) (T := TX8) (N := 7) hx hb hts in_X12_start_X8 tyX8 tyX8_ok nmX8 hown hE.1 hP hD hS 1 rfl rfl 2 (by decide +kernel) (hts (.fieldLink RX12 90 "ClauseBook$Lattice" "down" "I") (List.mem_of_getElem? (i := 4) rfl)) (fun _ h9 => h9) rfl (by decide +kernel) rfl rfl (Nat.le_of_ble_eq_true rfl) dX12_start_55 (fun H locs hP hD hS => ?_)
        obtain ⟨hP, hD⟩ := wPD [(h0, .inr (9, fs0)), (h1, .inr (5, [.int x1, .int x2, .int x3, .int (l9 3), .int (l9 4), .int (l9 5), .int (l9 6)])), (h2, .inr (8, [v0, v1, v2, v3, v4, .int n]))] hP hD rfl
        refine lv_aload_n hx hb dX12_start_58 rfl (lv_at hl 0 rfl) ?_
        refine va_get (D := D) (ci := 9) (v := .ref h2) (C := RX12) (T := TX12) (N := 11) hx hb hts in_X12_start_X12 hown hE.1 hP 0 rfl rfl 6 (by decide +kernel) (hts (.fieldLink RX12 43 "ClauseBook" "worth" "LClauseBook$Worth;") (List.mem_of_getElem? (i := 5) rfl)) (fun _ h9 => h9) e0_6 dX12_start_59 ?_
        have hFc := va_free (wc := [(h2, .inr (8, [v0, v1, v2, v3, v4, .int n]))]) hD hS hA [2] rfl
        refine va_callv (va_runV (As := []) (rest := []) ⟨hx, hb, hml, hown, hts⟩ (c_X11_forget l D T _ h2 (v0) (v1) (v2) (v3) (v4) n) (cwV 0 hts gX12_start_X11_forget rfl rfl rfl hv_X11_forget ⟨Nat.le_of_ble_eq_true rfl, Nat.le_of_ble_eq_true rfl⟩) (pW_V (q := (RX11, TX11, 6)) (ci := 8) (q0 := 2) hP hE hD rfl rfl [2] (by decide +kernel) rfl rfl) rfl rfl hl.1 rfl (lv_room (Nat.le_of_ble_eq_true rfl)) dX12_start_62 ⟨Nat.le_of_ble_eq_true rfl, Nat.le_of_ble_eq_true rfl⟩) hS (fun q _ h => hFc q h) hFc (fun u_8 t H1 locs ht hvm hr_7 hB hz1 hk1 hS => ?_)
        have hag9 : u_8 = n + 1 := hr_7
        obtain ⟨hP1, hD1⟩ := hB
        rw [ht] at hP1
        obtain ⟨hP, hD⟩ := va_repl [(h0, .inr (9, fs0)), (h1, .inr (5, [.int x1, .int x2, .int x3, .int (l9 3), .int (l9 4), .int (l9 5), .int (l9 6)])), (h2, .inr (8, [v0, v1, v2, v3, v4, .int u_8]))] hP hD [2] [2] rfl (by decide +kernel) rfl rfl rfl hk1 hP1
        clear hP1 hD1 hFc
        generalize H1 = H at hP hS ⊢
        refine lv_iconst (v := 1) hx hb dX12_start_65 (by decide +kernel) ?_
        exact W.iret hx hb hr (fun t ht hW => ⟨⟨_, (fun k => [x1, x2, x3, (l9 3), (l9 4), (l9 5), (l9 6), u_8].getD k 0), rfl, ⟨(by first | decide | (unfold sp_start; (repeat' split) <;> first | rfl | (exfalso; omega))), ⟨(fun _ => ⟨rfl, rfl, rfl⟩), (fun h => absurd rfl h)⟩, ⟨rfl, rfl, rfl, rfl⟩, (Or.inr hag9)⟩, by rw [ht]; exact hP.sub [0, 1, 2] rfl, hD.sub [0, 1, 2] (by decide +kernel) rfl⟩, hS.F ht⟩) hS.2.2 dX12_start_66
      · refine lv_if_ne (tgt := 34) hx hb dX12_start_28 (by decide +kernel) (fun c9 => absurd c9 (by decide +kernel)) (fun _ => ?_)
        refine lv_bipush (v := (-2)) hx hb dX12_start_31 (by decide +kernel) ?_
        exact W.iret hx hb hr (fun t ht hW => ⟨⟨_, (fun k => [(l9 0), (l9 1), (l9 2), (l9 3), (l9 4), (l9 5), (l9 6), n].getD k 0), rfl, ⟨(by first | decide | (unfold sp_start; (repeat' split) <;> first | rfl | (exfalso; omega))), ⟨(fun h => absurd h (by decide +kernel)), (fun _ => ⟨rfl, rfl, rfl⟩)⟩, ⟨rfl, rfl, rfl, rfl⟩, (Or.inl ⟨all7 rfl rfl rfl rfl rfl rfl rfl, rfl⟩)⟩, by rw [ht]; exact hP.sub [0, 1, 2] rfl, hD.sub [0, 1, 2] (by decide +kernel) rfl⟩, hS.F ht⟩) hS.2.2 dX12_start_33
    · refine lv_if_eq (tgt := 31) hx hb dX12_start_18 (by decide +kernel) (fun _ => ?_) (fun c9 => absurd c9 (by decide +kernel))
      refine lv_bipush (v := (-2)) hx hb dX12_start_31 (by decide +kernel) ?_
      exact W.iret hx hb hr (fun t ht hW => ⟨⟨_, (fun k => [(l9 0), (l9 1), (l9 2), (l9 3), (l9 4), (l9 5), (l9 6), n].getD k 0), rfl, ⟨(by first | decide | (unfold sp_start; (repeat' split) <;> first | rfl | (exfalso; omega))), ⟨(fun h => absurd h (by decide +kernel)), (fun _ => ⟨rfl, rfl, rfl⟩)⟩, ⟨rfl, rfl, rfl, rfl⟩, (Or.inl ⟨all7 rfl rfl rfl rfl rfl rfl rfl, rfl⟩)⟩, by rw [ht]; exact hP.sub [0, 1, 2] rfl, hD.sub [0, 1, 2] (by decide +kernel) rfl⟩, hS.F ht⟩) hS.2.2 dX12_start_33
  · refine lv_if_eq (tgt := 31) hx hb dX12_start_8 (by decide +kernel) (fun _ => ?_) (fun c9 => absurd c9 (by decide +kernel))
    refine lv_bipush (v := (-2)) hx hb dX12_start_31 (by decide +kernel) ?_
    exact W.iret hx hb hr (fun t ht hW => ⟨⟨_, (fun k => [(l9 0), (l9 1), (l9 2), (l9 3), (l9 4), (l9 5), (l9 6), n].getD k 0), rfl, ⟨(by first | decide | (unfold sp_start; (repeat' split) <;> first | rfl | (exfalso; omega))), ⟨(fun h => absurd h (by decide +kernel)), (fun _ => ⟨rfl, rfl, rfl⟩)⟩, ⟨rfl, rfl, rfl, rfl⟩, (Or.inl ⟨all7 rfl rfl rfl rfl rfl rfl rfl, rfl⟩)⟩, by rw [ht]; exact hP.sub [0, 1, 2] rfl, hD.sub [0, 1, 2] (by decide +kernel) rfl⟩, hS.F ht⟩) hS.2.2 dX12_start_33
theorem dX12_odds_0 : decode cX12_odds 0 = .ok (.iload_n 2, 1) := by decide +kernel
theorem dX12_odds_1 : decode cX12_odds 1 = .ok (.iconst 2, 1) := by decide +kernel
theorem dX12_odds_10 : decode cX12_odds 10 = .ok (.iload_n 1, 1) := by decide +kernel
theorem dX12_odds_11 : decode cX12_odds 11 = .ok (.iconst 0, 1) := by decide +kernel
theorem dX12_odds_12 : decode cX12_odds 12 = .ok (.iload_n 2, 1) := by decide +kernel
theorem dX12_odds_13 : decode cX12_odds 13 = .ok (.invokestatic 77, 3) := by decide +kernel
theorem dX12_odds_16 : decode cX12_odds 16 = .ok (.ifCond .ne 6, 3) := by decide +kernel
theorem dX12_odds_19 : decode cX12_odds 19 = .ok (.bipush (-2), 2) := by decide +kernel
theorem dX12_odds_2 : decode cX12_odds 2 = .ok (.bipush 9, 2) := by decide +kernel
theorem dX12_odds_21 : decode cX12_odds 21 = .ok (.ireturn, 1) := by decide +kernel
theorem dX12_odds_22 : decode cX12_odds 22 = .ok (.aload_n 0, 1) := by decide +kernel
theorem dX12_odds_23 : decode cX12_odds 23 = .ok (.getfield 27, 3) := by decide +kernel
theorem dX12_odds_26 : decode cX12_odds 26 = .ok (.iload_n 1, 1) := by decide +kernel
theorem dX12_odds_27 : decode cX12_odds 27 = .ok (.putfield 96, 3) := by decide +kernel
theorem dX12_odds_30 : decode cX12_odds 30 = .ok (.aload_n 0, 1) := by decide +kernel
theorem dX12_odds_31 : decode cX12_odds 31 = .ok (.getfield 27, 3) := by decide +kernel
theorem dX12_odds_34 : decode cX12_odds 34 = .ok (.iload_n 2, 1) := by decide +kernel
theorem dX12_odds_35 : decode cX12_odds 35 = .ok (.putfield 99, 3) := by decide +kernel
theorem dX12_odds_38 : decode cX12_odds 38 = .ok (.aload_n 0, 1) := by decide +kernel
theorem dX12_odds_39 : decode cX12_odds 39 = .ok (.getfield 43, 3) := by decide +kernel
theorem dX12_odds_4 : decode cX12_odds 4 = .ok (.invokestatic 77, 3) := by decide +kernel
theorem dX12_odds_42 : decode cX12_odds 42 = .ok (.invokevirtual 93, 3) := by decide +kernel
theorem dX12_odds_45 : decode cX12_odds 45 = .ok (.iconst 1, 1) := by decide +kernel
theorem dX12_odds_46 : decode cX12_odds 46 = .ok (.ireturn, 1) := by decide +kernel
theorem dX12_odds_7 : decode cX12_odds 7 = .ok (.ifCond .eq 12, 3) := by decide +kernel
set_option maxRecDepth 20000 in
theorem ggX12_odds_X11_forget : GoodIn wsX12_odds wsX11_forget := goodIn_r _ [13, 14, 33, 34, 35, 36, 37, 38] rfl (by decide +kernel)
set_option maxRecDepth 20000 in
theorem ggX12_odds_X12_within : GoodIn wsX12_odds wsX12_within := goodIn_r _ [8] rfl (by decide +kernel)
set_option maxRecDepth 20000 in
theorem gX12_odds_X11_forget : GoodIn wsX12_odds (wsV RX12 93 RX11 yX11_forget wsX11_forget) := goodIn_app (goodIn_r _ [9, 10, 11, 12] rfl (by decide +kernel)) ggX12_odds_X11_forget
set_option maxRecDepth 20000 in
theorem gX12_odds_X12_within : GoodIn wsX12_odds (va_wsS RX12 77 yX12_within wsX12_within) := goodIn_app (goodIn_of _ (by decide +kernel)) ggX12_odds_X12_within
set_option maxRecDepth 20000 in
theorem in_X12_odds_X12 : ∀ w ∈ wsX120, w ∈ wsX12_odds := sub_r [15, 16, 17, 18, 19, 20, 21, 22, 23, 24, 25] rfl
set_option maxRecDepth 20000 in
theorem in_X12_odds_X8 : ∀ w ∈ wsX80, w ∈ wsX12_odds := sub_r [26, 27, 28, 29, 30, 31, 32] rfl
set_option maxHeartbeats 4000000 in
set_option maxRecDepth 100000 in
theorem c_X12_odds (l : Launch) (D : va_G) (T : Nat → ClassId) (sz : Nat) (h0 : Nat) (h1 : Nat) (h2 : Nat) (fs0 : List Value) (l9 : Nat → Int32) (v0 : Value) (v1 : Value) (v2 : Value) (v3 : Value) (v4 : Value) (n : Int32) (x1 : Int32) (x2 : Int32) (e0_3 : fs0[3]? = some (.ref h1)) (e0_6 : fs0[6]? = some (.ref h2)) : Met l yX12_odds wsX12_odds ({ frames := 1, cells := 0, slots := 0, locals := 22 }) (pW [.ref h0, .int x1, .int x2] D T [(h0, .inr (9, fs0)), (h1, .inr (5, [.int (l9 0), .int (l9 1), .int (l9 2), .int (l9 3), .int (l9 4), .int (l9 5), .int (l9 6)])), (h2, .inr (8, [v0, v1, v2, v3, v4, .int n]))] sz) (va_Qi (fun (r : Int32) (u : Nat → Int32) => r = sp_odds x1 x2 ∧ ((r = 1 → u 3 = x1 ∧ u 4 = x2) ∧ (¬ r = 1 → u 3 = l9 3 ∧ u 4 = l9 4)) ∧ (u 0 = l9 0 ∧ u 1 = l9 1 ∧ u 2 = l9 2 ∧ u 5 = l9 5 ∧ u 6 = l9 6) ∧ agW (∀ j : Nat, j < 7 → u j = l9 j) n (u 7)) (bW D (va_A [(h0, .inr (9, fs0)), (h1, .inr (5, [.int (l9 0), .int (l9 1), .int (l9 2), .int (l9 3), .int (l9 4), .int (l9 5), .int (l9 6)])), (h2, .inr (8, [v0, v1, v2, v3, v4, .int n]))] sz) (fun (u : Nat → Int32) => [(h0, .inr (9, fs0)), (h1, .inr (5, [.int (u 0), .int (u 1), .int (u 2), .int (u 3), .int (u 4), .int (u 5), .int (u 6)])), (h2, .inr (8, [v0, v1, v2, v3, v4, .int (u 7)]))])) (va_A [(h0, .inr (9, fs0)), (h1, .inr (5, [.int (l9 0), .int (l9 1), .int (l9 2), .int (l9 3), .int (l9 4), .int (l9 5), .int (l9 6)])), (h2, .inr (8, [v0, v1, v2, v3, v4, .int n]))] sz)) 0 0 (va_A [(h0, .inr (9, fs0)), (h1, .inr (5, [.int (l9 0), .int (l9 1), .int (l9 2), .int (l9 3), .int (l9 4), .int (l9 5), .int (l9 6)])), (h2, .inr (8, [v0, v1, v2, v3, v4, .int n]))] sz) := by
  refine Met.ofW (cc := cX12_odds) (maxL := 3) (ret := (some .int)) (by decide +kernel) rfl ?_
  intro p e s m args below meth c s₁ B hml hv
  obtain ⟨rfl, hsz, hP, hE, hD0⟩ := hv
  have hx := B.exec
  have hb := B.bytes
  have hr := B.returns
  have hts := atoms_spec (ws := wsX12_odds) B.pre
  have hown : s.vm.findClass RX12 = some m.cls := findClass_of_methodNamed B.named
  have hlocks := B.notSynchronized
  subst hsz
  have hD := hD0.self (sz := s.heap.size)
  generalize hAe : va_A [(h0, .inr (9, fs0)), (h1, .inr (5, [.int (l9 0), .int (l9 1), .int (l9 2), .int (l9 3), .int (l9 4), .int (l9 5), .int (l9 6)])), (h2, .inr (8, [v0, v1, v2, v3, v4, .int n]))] s.heap.size = A at hD ⊢
  have hA : ∀ q : Nat, s.heap.size ≤ q → A q := fun q h => by rw [← hAe]; exact Or.inr h
  have hS : va_S A s.heap s.heap [] := va_S.rf
  have hP : va_P D vwCl [(h0, .inr (9, fs0)), (h1, .inr (5, [.int (l9 0), .int (l9 1), .int (l9 2), .int (l9 3), .int (l9 4), .int (l9 5), .int (l9 6)])), (h2, .inr (8, [v0, v1, v2, v3, v4, .int n]))] s.heap := hP
  have hl := lv_entry ([.ref h0, .int x1, .int x2]) (n := 3) (Nat.le_of_ble_eq_true rfl)
  rw [lg_entry_eq]
  generalize (lg_sl ([.ref h0, .int x1, .int x2]) ++ List.replicate (3 - (lg_sl ([.ref h0, .int x1, .int x2])).length) Slot.unset).toArray = ls at hl ⊢
  have hl : lv_has ls 3 [(0, .ref h0), (1, .int x1), (2, .int x2)] := hl
  clear hD0
  refine lv_iload_n hx hb dX12_odds_0 rfl (lv_at hl 2 rfl) ?_
  refine lv_iconst (v := 2) hx hb dX12_odds_1 (by decide +kernel) ?_
  refine lv_bipush (v := 9) hx hb dX12_odds_2 (by decide +kernel) ?_
  refine vp_callSi (W.runS (As := [.int x2, .int 2, .int 9]) (rest := []) ⟨hx, hb, hml, hown, hts⟩ (c_X12_within l D T x2 2 9 2 9 (by decide +kernel) (by decide +kernel)) (va_cwS 3 hts gX12_odds_X12_within rfl rfl rfl hs_X12_within ⟨Nat.le_of_ble_eq_true rfl, Nat.le_of_ble_eq_true rfl⟩) (pR_S hP hE [] rfl) rfl rfl hl.1 rfl (lv_room (Nat.le_of_ble_eq_true rfl)) dX12_odds_4 ⟨Nat.le_of_ble_eq_true rfl, Nat.le_of_ble_eq_true rfl⟩) (fun r_1 hr_1 => ?_)
  rcases bool_post hr_1 with ⟨c_2, rfl⟩ | ⟨c_2, rfl⟩
  · refine lv_if_eq (tgt := 19) hx hb dX12_odds_7 (by decide +kernel) (fun c9 => absurd c9 (by decide +kernel)) (fun _ => ?_)
    refine lv_iload_n hx hb dX12_odds_10 rfl (lv_at hl 1 rfl) ?_
    refine lv_iconst (v := 0) hx hb dX12_odds_11 (by decide +kernel) ?_
    refine lv_iload_n hx hb dX12_odds_12 rfl (lv_at hl 2 rfl) ?_
    refine vp_callSi (W.runS (As := [.int x1, .int 0, .int x2]) (rest := []) ⟨hx, hb, hml, hown, hts⟩ (c_X12_within l D T x1 0 x2 0 x2.toInt (by decide +kernel) rfl) (va_cwS 3 hts gX12_odds_X12_within rfl rfl rfl hs_X12_within ⟨Nat.le_of_ble_eq_true rfl, Nat.le_of_ble_eq_true rfl⟩) (pR_S hP hE [] rfl) rfl rfl hl.1 rfl (lv_room (Nat.le_of_ble_eq_true rfl)) dX12_odds_13 ⟨Nat.le_of_ble_eq_true rfl, Nat.le_of_ble_eq_true rfl⟩) (fun r_3 hr_3 => ?_)
    rcases bool_post hr_3 with ⟨c_4, rfl⟩ | ⟨c_4, rfl⟩
    · refine lv_if_ne (tgt := 22) hx hb dX12_odds_16 (by decide +kernel) (fun _ => ?_) (fun c9 => absurd c9 (by decide +kernel))
      refine lv_aload_n hx hb dX12_odds_22 rfl (lv_at hl 0 rfl) ?_
      refine va_get (D := D) (ci := 9) (v := .ref h1) (C := RX12) (T := TX12) (N := 11) hx hb hts in_X12_odds_X12 hown hE.1 hP 0 rfl rfl 3 (by decide +kernel) (hts (.fieldLink RX12 27 "ClauseBook" "lattice" "LClauseBook$Lattice;") (List.mem_of_getElem? (i := 1) rfl)) (fun _ h9 => h9) e0_3 dX12_odds_23 ?_
      refine lv_iload_n hx hb dX12_odds_26 rfl (lv_at hl 1 rfl) ?_
      refine va_put (D := D) (ci := 5) (v := .int x1) (ty := .int) (C := RX8) (T := TX8) (N := 7) hx hb hts in_X12_odds_X8 tyX8 tyX8_ok nmX8 hown hE.1 hP hD hS 1 rfl rfl 3 (by decide +kernel) (hts (.fieldLink RX12 96 "ClauseBook$Lattice" "p" "I") (List.mem_of_getElem? (i := 2) rfl)) (fun _ h9 => h9) rfl (by decide +kernel) rfl rfl (Nat.le_of_ble_eq_true rfl) dX12_odds_27 (fun H locs hP hD hS => ?_)
      obtain ⟨hP, hD⟩ := wPD [(h0, .inr (9, fs0)), (h1, .inr (5, [.int (l9 0), .int (l9 1), .int (l9 2), .int x1, .int (l9 4), .int (l9 5), .int (l9 6)])), (h2, .inr (8, [v0, v1, v2, v3, v4, .int n]))] hP hD rfl
      refine lv_aload_n hx hb dX12_odds_30 rfl (lv_at hl 0 rfl) ?_
      refine va_get (D := D) (ci := 9) (v := .ref h1) (C := RX12) (T := TX12) (N := 11) hx hb hts in_X12_odds_X12 hown hE.1 hP 0 rfl rfl 3 (by decide +kernel) (hts (.fieldLink RX12 27 "ClauseBook" "lattice" "LClauseBook$Lattice;") (List.mem_of_getElem? (i := 1) rfl)) (fun _ h9 => h9) e0_3 dX12_odds_31 ?_
      refine lv_iload_n hx hb dX12_odds_34 rfl (lv_at hl 2 rfl) ?_
      refine va_put (D := D) (ci := 5) (v := .int x2) (ty := .int) (C := RX8) (T := TX8) (N := 7) hx hb hts in_X12_odds_X8 tyX8 tyX8_ok nmX8 hown hE.1 hP hD hS 1 rfl rfl 4 (by decide +kernel) (hts (.fieldLink RX12 99 "ClauseBook$Lattice" "q" "I") (List.mem_of_getElem? (i := 3) rfl)) (fun _ h9 => h9) rfl (by decide +kernel) rfl rfl (Nat.le_of_ble_eq_true rfl) dX12_odds_35 (fun H locs hP hD hS => ?_)
      obtain ⟨hP, hD⟩ := wPD [(h0, .inr (9, fs0)), (h1, .inr (5, [.int (l9 0), .int (l9 1), .int (l9 2), .int x1, .int x2, .int (l9 5), .int (l9 6)])), (h2, .inr (8, [v0, v1, v2, v3, v4, .int n]))] hP hD rfl
      refine lv_aload_n hx hb dX12_odds_38 rfl (lv_at hl 0 rfl) ?_
      refine va_get (D := D) (ci := 9) (v := .ref h2) (C := RX12) (T := TX12) (N := 11) hx hb hts in_X12_odds_X12 hown hE.1 hP 0 rfl rfl 6 (by decide +kernel) (hts (.fieldLink RX12 43 "ClauseBook" "worth" "LClauseBook$Worth;") (List.mem_of_getElem? (i := 4) rfl)) (fun _ h9 => h9) e0_6 dX12_odds_39 ?_
      have hFc := va_free (wc := [(h2, .inr (8, [v0, v1, v2, v3, v4, .int n]))]) hD hS hA [2] rfl
      refine va_callv (va_runV (As := []) (rest := []) ⟨hx, hb, hml, hown, hts⟩ (c_X11_forget l D T _ h2 (v0) (v1) (v2) (v3) (v4) n) (cwV 0 hts gX12_odds_X11_forget rfl rfl rfl hv_X11_forget ⟨Nat.le_of_ble_eq_true rfl, Nat.le_of_ble_eq_true rfl⟩) (pW_V (q := (RX11, TX11, 6)) (ci := 8) (q0 := 2) hP hE hD rfl rfl [2] (by decide +kernel) rfl rfl) rfl rfl hl.1 rfl (lv_room (Nat.le_of_ble_eq_true rfl)) dX12_odds_42 ⟨Nat.le_of_ble_eq_true rfl, Nat.le_of_ble_eq_true rfl⟩) hS (fun q _ h => hFc q h) hFc (fun u_6 t H1 locs ht hvm hr_5 hB hz1 hk1 hS => ?_)
      have hag9 : u_6 = n + 1 := hr_5
      obtain ⟨hP1, hD1⟩ := hB
      rw [ht] at hP1
      obtain ⟨hP, hD⟩ := va_repl [(h0, .inr (9, fs0)), (h1, .inr (5, [.int (l9 0), .int (l9 1), .int (l9 2), .int x1, .int x2, .int (l9 5), .int (l9 6)])), (h2, .inr (8, [v0, v1, v2, v3, v4, .int u_6]))] hP hD [2] [2] rfl (by decide +kernel) rfl rfl rfl hk1 hP1
      clear hP1 hD1 hFc
      generalize H1 = H at hP hS ⊢
      refine lv_iconst (v := 1) hx hb dX12_odds_45 (by decide +kernel) ?_
      exact W.iret hx hb hr (fun t ht hW => ⟨⟨_, (fun k => [(l9 0), (l9 1), (l9 2), x1, x2, (l9 5), (l9 6), u_6].getD k 0), rfl, ⟨(by first | decide | (unfold sp_odds; (repeat' split) <;> first | rfl | (exfalso; omega))), ⟨(fun _ => ⟨rfl, rfl⟩), (fun h => absurd rfl h)⟩, ⟨rfl, rfl, rfl, rfl, rfl⟩, (Or.inr hag9)⟩, by rw [ht]; exact hP.sub [0, 1, 2] rfl, hD.sub [0, 1, 2] (by decide +kernel) rfl⟩, hS.F ht⟩) hS.2.2 dX12_odds_46
    · refine lv_if_ne (tgt := 22) hx hb dX12_odds_16 (by decide +kernel) (fun c9 => absurd c9 (by decide +kernel)) (fun _ => ?_)
      refine lv_bipush (v := (-2)) hx hb dX12_odds_19 (by decide +kernel) ?_
      exact W.iret hx hb hr (fun t ht hW => ⟨⟨_, (fun k => [(l9 0), (l9 1), (l9 2), (l9 3), (l9 4), (l9 5), (l9 6), n].getD k 0), rfl, ⟨(by first | decide | (unfold sp_odds; (repeat' split) <;> first | rfl | (exfalso; omega))), ⟨(fun h => absurd h (by decide +kernel)), (fun _ => ⟨rfl, rfl⟩)⟩, ⟨rfl, rfl, rfl, rfl, rfl⟩, (Or.inl ⟨all7 rfl rfl rfl rfl rfl rfl rfl, rfl⟩)⟩, by rw [ht]; exact hP.sub [0, 1, 2] rfl, hD.sub [0, 1, 2] (by decide +kernel) rfl⟩, hS.F ht⟩) hS.2.2 dX12_odds_21
  · refine lv_if_eq (tgt := 19) hx hb dX12_odds_7 (by decide +kernel) (fun _ => ?_) (fun c9 => absurd c9 (by decide +kernel))
    refine lv_bipush (v := (-2)) hx hb dX12_odds_19 (by decide +kernel) ?_
    exact W.iret hx hb hr (fun t ht hW => ⟨⟨_, (fun k => [(l9 0), (l9 1), (l9 2), (l9 3), (l9 4), (l9 5), (l9 6), n].getD k 0), rfl, ⟨(by first | decide | (unfold sp_odds; (repeat' split) <;> first | rfl | (exfalso; omega))), ⟨(fun h => absurd h (by decide +kernel)), (fun _ => ⟨rfl, rfl⟩)⟩, ⟨rfl, rfl, rfl, rfl, rfl⟩, (Or.inl ⟨all7 rfl rfl rfl rfl rfl rfl rfl, rfl⟩)⟩, by rw [ht]; exact hP.sub [0, 1, 2] rfl, hD.sub [0, 1, 2] (by decide +kernel) rfl⟩, hS.F ht⟩) hS.2.2 dX12_odds_21
theorem dX12_wait_0 : decode cX12_wait 0 = .ok (.iload_n 2, 1) := by decide +kernel
theorem dX12_wait_1 : decode cX12_wait 1 = .ok (.iconst 1, 1) := by decide +kernel
theorem dX12_wait_10 : decode cX12_wait 10 = .ok (.iload_n 1, 1) := by decide +kernel
theorem dX12_wait_11 : decode cX12_wait 11 = .ok (.iconst 1, 1) := by decide +kernel
theorem dX12_wait_12 : decode cX12_wait 12 = .ok (.iload_n 2, 1) := by decide +kernel
theorem dX12_wait_13 : decode cX12_wait 13 = .ok (.invokestatic 77, 3) := by decide +kernel
theorem dX12_wait_16 : decode cX12_wait 16 = .ok (.ifCond .ne 6, 3) := by decide +kernel
theorem dX12_wait_19 : decode cX12_wait 19 = .ok (.bipush (-2), 2) := by decide +kernel
theorem dX12_wait_2 : decode cX12_wait 2 = .ok (.bipush 9, 2) := by decide +kernel
theorem dX12_wait_21 : decode cX12_wait 21 = .ok (.ireturn, 1) := by decide +kernel
theorem dX12_wait_22 : decode cX12_wait 22 = .ok (.aload_n 0, 1) := by decide +kernel
theorem dX12_wait_23 : decode cX12_wait 23 = .ok (.getfield 27, 3) := by decide +kernel
theorem dX12_wait_26 : decode cX12_wait 26 = .ok (.iload_n 1, 1) := by decide +kernel
theorem dX12_wait_27 : decode cX12_wait 27 = .ok (.putfield 102, 3) := by decide +kernel
theorem dX12_wait_30 : decode cX12_wait 30 = .ok (.aload_n 0, 1) := by decide +kernel
theorem dX12_wait_31 : decode cX12_wait 31 = .ok (.getfield 27, 3) := by decide +kernel
theorem dX12_wait_34 : decode cX12_wait 34 = .ok (.iload_n 2, 1) := by decide +kernel
theorem dX12_wait_35 : decode cX12_wait 35 = .ok (.putfield 105, 3) := by decide +kernel
theorem dX12_wait_38 : decode cX12_wait 38 = .ok (.aload_n 0, 1) := by decide +kernel
theorem dX12_wait_39 : decode cX12_wait 39 = .ok (.getfield 43, 3) := by decide +kernel
theorem dX12_wait_4 : decode cX12_wait 4 = .ok (.invokestatic 77, 3) := by decide +kernel
theorem dX12_wait_42 : decode cX12_wait 42 = .ok (.invokevirtual 93, 3) := by decide +kernel
theorem dX12_wait_45 : decode cX12_wait 45 = .ok (.iconst 1, 1) := by decide +kernel
theorem dX12_wait_46 : decode cX12_wait 46 = .ok (.ireturn, 1) := by decide +kernel
theorem dX12_wait_7 : decode cX12_wait 7 = .ok (.ifCond .eq 12, 3) := by decide +kernel
set_option maxRecDepth 20000 in
theorem ggX12_wait_X11_forget : GoodIn wsX12_wait wsX11_forget := goodIn_r _ [13, 14, 33, 34, 35, 36, 37, 38] rfl (by decide +kernel)
set_option maxRecDepth 20000 in
theorem ggX12_wait_X12_within : GoodIn wsX12_wait wsX12_within := goodIn_r _ [8] rfl (by decide +kernel)
set_option maxRecDepth 20000 in
theorem gX12_wait_X11_forget : GoodIn wsX12_wait (wsV RX12 93 RX11 yX11_forget wsX11_forget) := goodIn_app (goodIn_r _ [9, 10, 11, 12] rfl (by decide +kernel)) ggX12_wait_X11_forget
set_option maxRecDepth 20000 in
theorem gX12_wait_X12_within : GoodIn wsX12_wait (va_wsS RX12 77 yX12_within wsX12_within) := goodIn_app (goodIn_of _ (by decide +kernel)) ggX12_wait_X12_within
set_option maxRecDepth 20000 in
theorem in_X12_wait_X12 : ∀ w ∈ wsX120, w ∈ wsX12_wait := sub_r [15, 16, 17, 18, 19, 20, 21, 22, 23, 24, 25] rfl
set_option maxRecDepth 20000 in
theorem in_X12_wait_X8 : ∀ w ∈ wsX80, w ∈ wsX12_wait := sub_r [26, 27, 28, 29, 30, 31, 32] rfl
set_option maxHeartbeats 4000000 in
set_option maxRecDepth 100000 in
theorem c_X12_wait (l : Launch) (D : va_G) (T : Nat → ClassId) (sz : Nat) (h0 : Nat) (h1 : Nat) (h2 : Nat) (fs0 : List Value) (l9 : Nat → Int32) (v0 : Value) (v1 : Value) (v2 : Value) (v3 : Value) (v4 : Value) (n : Int32) (x1 : Int32) (x2 : Int32) (e0_3 : fs0[3]? = some (.ref h1)) (e0_6 : fs0[6]? = some (.ref h2)) : Met l yX12_wait wsX12_wait ({ frames := 1, cells := 0, slots := 0, locals := 22 }) (pW [.ref h0, .int x1, .int x2] D T [(h0, .inr (9, fs0)), (h1, .inr (5, [.int (l9 0), .int (l9 1), .int (l9 2), .int (l9 3), .int (l9 4), .int (l9 5), .int (l9 6)])), (h2, .inr (8, [v0, v1, v2, v3, v4, .int n]))] sz) (va_Qi (fun (r : Int32) (u : Nat → Int32) => r = sp_wait x1 x2 ∧ ((r = 1 → u 5 = x1 ∧ u 6 = x2) ∧ (¬ r = 1 → u 5 = l9 5 ∧ u 6 = l9 6)) ∧ (u 0 = l9 0 ∧ u 1 = l9 1 ∧ u 2 = l9 2 ∧ u 3 = l9 3 ∧ u 4 = l9 4) ∧ agW (∀ j : Nat, j < 7 → u j = l9 j) n (u 7)) (bW D (va_A [(h0, .inr (9, fs0)), (h1, .inr (5, [.int (l9 0), .int (l9 1), .int (l9 2), .int (l9 3), .int (l9 4), .int (l9 5), .int (l9 6)])), (h2, .inr (8, [v0, v1, v2, v3, v4, .int n]))] sz) (fun (u : Nat → Int32) => [(h0, .inr (9, fs0)), (h1, .inr (5, [.int (u 0), .int (u 1), .int (u 2), .int (u 3), .int (u 4), .int (u 5), .int (u 6)])), (h2, .inr (8, [v0, v1, v2, v3, v4, .int (u 7)]))])) (va_A [(h0, .inr (9, fs0)), (h1, .inr (5, [.int (l9 0), .int (l9 1), .int (l9 2), .int (l9 3), .int (l9 4), .int (l9 5), .int (l9 6)])), (h2, .inr (8, [v0, v1, v2, v3, v4, .int n]))] sz)) 0 0 (va_A [(h0, .inr (9, fs0)), (h1, .inr (5, [.int (l9 0), .int (l9 1), .int (l9 2), .int (l9 3), .int (l9 4), .int (l9 5), .int (l9 6)])), (h2, .inr (8, [v0, v1, v2, v3, v4, .int n]))] sz) := by
  refine Met.ofW (cc := cX12_wait) (maxL := 3) (ret := (some .int)) (by decide +kernel) rfl ?_
  intro p e s m args below meth c s₁ B hml hv
  obtain ⟨rfl, hsz, hP, hE, hD0⟩ := hv
  have hx := B.exec
  have hb := B.bytes
  have hr := B.returns
  have hts := atoms_spec (ws := wsX12_wait) B.pre
  have hown : s.vm.findClass RX12 = some m.cls := findClass_of_methodNamed B.named
  have hlocks := B.notSynchronized
  subst hsz
  have hD := hD0.self (sz := s.heap.size)
  generalize hAe : va_A [(h0, .inr (9, fs0)), (h1, .inr (5, [.int (l9 0), .int (l9 1), .int (l9 2), .int (l9 3), .int (l9 4), .int (l9 5), .int (l9 6)])), (h2, .inr (8, [v0, v1, v2, v3, v4, .int n]))] s.heap.size = A at hD ⊢
  have hA : ∀ q : Nat, s.heap.size ≤ q → A q := fun q h => by rw [← hAe]; exact Or.inr h
  have hS : va_S A s.heap s.heap [] := va_S.rf
  have hP : va_P D vwCl [(h0, .inr (9, fs0)), (h1, .inr (5, [.int (l9 0), .int (l9 1), .int (l9 2), .int (l9 3), .int (l9 4), .int (l9 5), .int (l9 6)])), (h2, .inr (8, [v0, v1, v2, v3, v4, .int n]))] s.heap := hP
  have hl := lv_entry ([.ref h0, .int x1, .int x2]) (n := 3) (Nat.le_of_ble_eq_true rfl)
  rw [lg_entry_eq]
  generalize (lg_sl ([.ref h0, .int x1, .int x2]) ++ List.replicate (3 - (lg_sl ([.ref h0, .int x1, .int x2])).length) Slot.unset).toArray = ls at hl ⊢
  have hl : lv_has ls 3 [(0, .ref h0), (1, .int x1), (2, .int x2)] := hl
  clear hD0
  refine lv_iload_n hx hb dX12_wait_0 rfl (lv_at hl 2 rfl) ?_
  refine lv_iconst (v := 1) hx hb dX12_wait_1 (by decide +kernel) ?_
  refine lv_bipush (v := 9) hx hb dX12_wait_2 (by decide +kernel) ?_
  refine vp_callSi (W.runS (As := [.int x2, .int 1, .int 9]) (rest := []) ⟨hx, hb, hml, hown, hts⟩ (c_X12_within l D T x2 1 9 1 9 (by decide +kernel) (by decide +kernel)) (va_cwS 3 hts gX12_wait_X12_within rfl rfl rfl hs_X12_within ⟨Nat.le_of_ble_eq_true rfl, Nat.le_of_ble_eq_true rfl⟩) (pR_S hP hE [] rfl) rfl rfl hl.1 rfl (lv_room (Nat.le_of_ble_eq_true rfl)) dX12_wait_4 ⟨Nat.le_of_ble_eq_true rfl, Nat.le_of_ble_eq_true rfl⟩) (fun r_1 hr_1 => ?_)
  rcases bool_post hr_1 with ⟨c_2, rfl⟩ | ⟨c_2, rfl⟩
  · refine lv_if_eq (tgt := 19) hx hb dX12_wait_7 (by decide +kernel) (fun c9 => absurd c9 (by decide +kernel)) (fun _ => ?_)
    refine lv_iload_n hx hb dX12_wait_10 rfl (lv_at hl 1 rfl) ?_
    refine lv_iconst (v := 1) hx hb dX12_wait_11 (by decide +kernel) ?_
    refine lv_iload_n hx hb dX12_wait_12 rfl (lv_at hl 2 rfl) ?_
    refine vp_callSi (W.runS (As := [.int x1, .int 1, .int x2]) (rest := []) ⟨hx, hb, hml, hown, hts⟩ (c_X12_within l D T x1 1 x2 1 x2.toInt (by decide +kernel) rfl) (va_cwS 3 hts gX12_wait_X12_within rfl rfl rfl hs_X12_within ⟨Nat.le_of_ble_eq_true rfl, Nat.le_of_ble_eq_true rfl⟩) (pR_S hP hE [] rfl) rfl rfl hl.1 rfl (lv_room (Nat.le_of_ble_eq_true rfl)) dX12_wait_13 ⟨Nat.le_of_ble_eq_true rfl, Nat.le_of_ble_eq_true rfl⟩) (fun r_3 hr_3 => ?_)
    rcases bool_post hr_3 with ⟨c_4, rfl⟩ | ⟨c_4, rfl⟩
    · refine lv_if_ne (tgt := 22) hx hb dX12_wait_16 (by decide +kernel) (fun _ => ?_) (fun c9 => absurd c9 (by decide +kernel))
      refine lv_aload_n hx hb dX12_wait_22 rfl (lv_at hl 0 rfl) ?_
      refine va_get (D := D) (ci := 9) (v := .ref h1) (C := RX12) (T := TX12) (N := 11) hx hb hts in_X12_wait_X12 hown hE.1 hP 0 rfl rfl 3 (by decide +kernel) (hts (.fieldLink RX12 27 "ClauseBook" "lattice" "LClauseBook$Lattice;") (List.mem_of_getElem? (i := 1) rfl)) (fun _ h9 => h9) e0_3 dX12_wait_23 ?_
      refine lv_iload_n hx hb dX12_wait_26 rfl (lv_at hl 1 rfl) ?_
      refine va_put (D := D) (ci := 5) (v := .int x1) (ty := .int) (C := RX8) (T := TX8) (N := 7) hx hb hts in_X12_wait_X8 tyX8 tyX8_ok nmX8 hown hE.1 hP hD hS 1 rfl rfl 5 (by decide +kernel) (hts (.fieldLink RX12 102 "ClauseBook$Lattice" "a" "I") (List.mem_of_getElem? (i := 2) rfl)) (fun _ h9 => h9) rfl (by decide +kernel) rfl rfl (Nat.le_of_ble_eq_true rfl) dX12_wait_27 (fun H locs hP hD hS => ?_)
      obtain ⟨hP, hD⟩ := wPD [(h0, .inr (9, fs0)), (h1, .inr (5, [.int (l9 0), .int (l9 1), .int (l9 2), .int (l9 3), .int (l9 4), .int x1, .int (l9 6)])), (h2, .inr (8, [v0, v1, v2, v3, v4, .int n]))] hP hD rfl
      refine lv_aload_n hx hb dX12_wait_30 rfl (lv_at hl 0 rfl) ?_
      refine va_get (D := D) (ci := 9) (v := .ref h1) (C := RX12) (T := TX12) (N := 11) hx hb hts in_X12_wait_X12 hown hE.1 hP 0 rfl rfl 3 (by decide +kernel) (hts (.fieldLink RX12 27 "ClauseBook" "lattice" "LClauseBook$Lattice;") (List.mem_of_getElem? (i := 1) rfl)) (fun _ h9 => h9) e0_3 dX12_wait_31 ?_
      refine lv_iload_n hx hb dX12_wait_34 rfl (lv_at hl 2 rfl) ?_
      refine va_put (D := D) (ci := 5) (v := .int x2) (ty := .int) (C := RX8) (T := TX8) (N := 7) hx hb hts in_X12_wait_X8 tyX8 tyX8_ok nmX8 hown hE.1 hP hD hS 1 rfl rfl 6 (by decide +kernel) (hts (.fieldLink RX12 105 "ClauseBook$Lattice" "b" "I") (List.mem_of_getElem? (i := 3) rfl)) (fun _ h9 => h9) rfl (by decide +kernel) rfl rfl (Nat.le_of_ble_eq_true rfl) dX12_wait_35 (fun H locs hP hD hS => ?_)
      obtain ⟨hP, hD⟩ := wPD [(h0, .inr (9, fs0)), (h1, .inr (5, [.int (l9 0), .int (l9 1), .int (l9 2), .int (l9 3), .int (l9 4), .int x1, .int x2])), (h2, .inr (8, [v0, v1, v2, v3, v4, .int n]))] hP hD rfl
      refine lv_aload_n hx hb dX12_wait_38 rfl (lv_at hl 0 rfl) ?_
      refine va_get (D := D) (ci := 9) (v := .ref h2) (C := RX12) (T := TX12) (N := 11) hx hb hts in_X12_wait_X12 hown hE.1 hP 0 rfl rfl 6 (by decide +kernel) (hts (.fieldLink RX12 43 "ClauseBook" "worth" "LClauseBook$Worth;") (List.mem_of_getElem? (i := 4) rfl)) (fun _ h9 => h9) e0_6 dX12_wait_39 ?_
      have hFc := va_free (wc := [(h2, .inr (8, [v0, v1, v2, v3, v4, .int n]))]) hD hS hA [2] rfl
      refine va_callv (va_runV (As := []) (rest := []) ⟨hx, hb, hml, hown, hts⟩ (c_X11_forget l D T _ h2 (v0) (v1) (v2) (v3) (v4) n) (cwV 0 hts gX12_wait_X11_forget rfl rfl rfl hv_X11_forget ⟨Nat.le_of_ble_eq_true rfl, Nat.le_of_ble_eq_true rfl⟩) (pW_V (q := (RX11, TX11, 6)) (ci := 8) (q0 := 2) hP hE hD rfl rfl [2] (by decide +kernel) rfl rfl) rfl rfl hl.1 rfl (lv_room (Nat.le_of_ble_eq_true rfl)) dX12_wait_42 ⟨Nat.le_of_ble_eq_true rfl, Nat.le_of_ble_eq_true rfl⟩) hS (fun q _ h => hFc q h) hFc (fun u_6 t H1 locs ht hvm hr_5 hB hz1 hk1 hS => ?_)
      have hag9 : u_6 = n + 1 := hr_5
      obtain ⟨hP1, hD1⟩ := hB
      rw [ht] at hP1
      obtain ⟨hP, hD⟩ := va_repl [(h0, .inr (9, fs0)), (h1, .inr (5, [.int (l9 0), .int (l9 1), .int (l9 2), .int (l9 3), .int (l9 4), .int x1, .int x2])), (h2, .inr (8, [v0, v1, v2, v3, v4, .int u_6]))] hP hD [2] [2] rfl (by decide +kernel) rfl rfl rfl hk1 hP1
      clear hP1 hD1 hFc
      generalize H1 = H at hP hS ⊢
      refine lv_iconst (v := 1) hx hb dX12_wait_45 (by decide +kernel) ?_
      exact W.iret hx hb hr (fun t ht hW => ⟨⟨_, (fun k => [(l9 0), (l9 1), (l9 2), (l9 3), (l9 4), x1, x2, u_6].getD k 0), rfl, ⟨(by first | decide | (unfold sp_wait; (repeat' split) <;> first | rfl | (exfalso; omega))), ⟨(fun _ => ⟨rfl, rfl⟩), (fun h => absurd rfl h)⟩, ⟨rfl, rfl, rfl, rfl, rfl⟩, (Or.inr hag9)⟩, by rw [ht]; exact hP.sub [0, 1, 2] rfl, hD.sub [0, 1, 2] (by decide +kernel) rfl⟩, hS.F ht⟩) hS.2.2 dX12_wait_46
    · refine lv_if_ne (tgt := 22) hx hb dX12_wait_16 (by decide +kernel) (fun c9 => absurd c9 (by decide +kernel)) (fun _ => ?_)
      refine lv_bipush (v := (-2)) hx hb dX12_wait_19 (by decide +kernel) ?_
      exact W.iret hx hb hr (fun t ht hW => ⟨⟨_, (fun k => [(l9 0), (l9 1), (l9 2), (l9 3), (l9 4), (l9 5), (l9 6), n].getD k 0), rfl, ⟨(by first | decide | (unfold sp_wait; (repeat' split) <;> first | rfl | (exfalso; omega))), ⟨(fun h => absurd h (by decide +kernel)), (fun _ => ⟨rfl, rfl⟩)⟩, ⟨rfl, rfl, rfl, rfl, rfl⟩, (Or.inl ⟨all7 rfl rfl rfl rfl rfl rfl rfl, rfl⟩)⟩, by rw [ht]; exact hP.sub [0, 1, 2] rfl, hD.sub [0, 1, 2] (by decide +kernel) rfl⟩, hS.F ht⟩) hS.2.2 dX12_wait_21
  · refine lv_if_eq (tgt := 19) hx hb dX12_wait_7 (by decide +kernel) (fun _ => ?_) (fun c9 => absurd c9 (by decide +kernel))
    refine lv_bipush (v := (-2)) hx hb dX12_wait_19 (by decide +kernel) ?_
    exact W.iret hx hb hr (fun t ht hW => ⟨⟨_, (fun k => [(l9 0), (l9 1), (l9 2), (l9 3), (l9 4), (l9 5), (l9 6), n].getD k 0), rfl, ⟨(by first | decide | (unfold sp_wait; (repeat' split) <;> first | rfl | (exfalso; omega))), ⟨(fun h => absurd h (by decide +kernel)), (fun _ => ⟨rfl, rfl⟩)⟩, ⟨rfl, rfl, rfl, rfl, rfl⟩, (Or.inl ⟨all7 rfl rfl rfl rfl rfl rfl rfl, rfl⟩)⟩, by rw [ht]; exact hP.sub [0, 1, 2] rfl, hD.sub [0, 1, 2] (by decide +kernel) rfl⟩, hS.F ht⟩) hS.2.2 dX12_wait_21
