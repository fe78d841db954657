theorem dX3_enter_0 : decode cX3_enter 0 = .ok (.aload_n 0, 1) := by decide +kernel
theorem dX3_enter_1 : decode cX3_enter 1 = .ok (.dup, 1) := by decide +kernel
theorem dX3_enter_12 : decode cX3_enter 12 = .ok (.aload_n 0, 1) := by decide +kernel
theorem dX3_enter_13 : decode cX3_enter 13 = .ok (.getfield 9, 3) := by decide +kernel
theorem dX3_enter_16 : decode cX3_enter 16 = .ok (.iload_n 1, 1) := by decide +kernel
theorem dX3_enter_17 : decode cX3_enter 17 = .ok (.laload, 1) := by decide +kernel
theorem dX3_enter_18 : decode cX3_enter 18 = .ok (.lload_n 2, 1) := by decide +kernel
theorem dX3_enter_19 : decode cX3_enter 19 = .ok (.invokestatic 107, 3) := by decide +kernel
theorem dX3_enter_2 : decode cX3_enter 2 = .ok (.getfield 15, 3) := by decide +kernel
theorem dX3_enter_22 : decode cX3_enter 22 = .ok (.ifCond .eq 16, 3) := by decide +kernel
theorem dX3_enter_25 : decode cX3_enter 25 = .ok (.aload_n 0, 1) := by decide +kernel
theorem dX3_enter_26 : decode cX3_enter 26 = .ok (.getfield 9, 3) := by decide +kernel
theorem dX3_enter_29 : decode cX3_enter 29 = .ok (.iload_n 1, 1) := by decide +kernel
theorem dX3_enter_30 : decode cX3_enter 30 = .ok (.dup2, 1) := by decide +kernel
theorem dX3_enter_31 : decode cX3_enter 31 = .ok (.laload, 1) := by decide +kernel
theorem dX3_enter_32 : decode cX3_enter 32 = .ok (.lload_n 2, 1) := by decide +kernel
theorem dX3_enter_33 : decode cX3_enter 33 = .ok (.ladd, 1) := by decide +kernel
theorem dX3_enter_34 : decode cX3_enter 34 = .ok (.lastore, 1) := by decide +kernel
theorem dX3_enter_35 : decode cX3_enter 35 = .ok (.goto 8, 3) := by decide +kernel
theorem dX3_enter_38 : decode cX3_enter 38 = .ok (.aload_n 0, 1) := by decide +kernel
theorem dX3_enter_39 : decode cX3_enter 39 = .ok (.iconst 1, 1) := by decide +kernel
theorem dX3_enter_40 : decode cX3_enter 40 = .ok (.putfield 19, 3) := by decide +kernel
theorem dX3_enter_43 : decode cX3_enter 43 = .ok (.return_, 1) := by decide +kernel
theorem dX3_enter_5 : decode cX3_enter 5 = .ok (.iconst 1, 1) := by decide +kernel
theorem dX3_enter_6 : decode cX3_enter 6 = .ok (.iload_n 1, 1) := by decide +kernel
theorem dX3_enter_7 : decode cX3_enter 7 = .ok (.ishl, 1) := by decide +kernel
theorem dX3_enter_8 : decode cX3_enter 8 = .ok (.ior, 1) := by decide +kernel
theorem dX3_enter_9 : decode cX3_enter 9 = .ok (.putfield 15, 3) := by decide +kernel
set_option maxRecDepth 20000 in
theorem ggX3_enter_X11_sumFits : GoodIn wsX3_enter wsX11_sumFits := goodIn_r _ [7] rfl (by decide +kernel)
set_option maxRecDepth 20000 in
theorem gX3_enter_X11_sumFits : GoodIn wsX3_enter (va_wsS RX3 107 yX11_sumFits wsX11_sumFits) := goodIn_app (goodIn_of _ (by decide +kernel)) ggX3_enter_X11_sumFits
set_option maxRecDepth 20000 in
theorem in_X3_enter_X3 : ∀ w ∈ wsX30, w ∈ wsX3_enter := sub_r [8, 9, 10, 11, 12, 13, 14] rfl
set_option maxHeartbeats 4000000 in
set_option maxRecDepth 100000 in
theorem c_X3_enter (l : Launch) (D : va_G) (T : Nat → ClassId) (sz : Nat) (h0 : Nat) (on : Nat) (w0 : Value) (w1 : Value) (w2 : Value) (dy : Int32) (mu : Int32) (pa : Int32) (fo : Nat → Int64) (x1 : Int32) (x2 : Int64) (hd : 0 ≤ x1.toInt ∧ x1.toInt ≤ 6) : Met l yX3_enter wsX3_enter ({ frames := 1, cells := 0, slots := 0, locals := 25 }) (pW [.ref h0, .int x1, .long x2] D T [(h0, .inr (2, [w0, w1, w2, .ref on, .int dy, .int mu, .int pa])), (on, .inl (T 1, 7, .inr (.inl fo)))] sz) (va_Qv (fun (u : (Nat → Int64) × Int32 × Int32) => entP x1 x2 ((fo, dy, mu) : duS) ((u.1, u.2.1, u.2.2) : duS)) (bW D (va_A [(h0, .inr (2, [w0, w1, w2, .ref on, .int dy, .int mu, .int pa])), (on, .inl (T 1, 7, .inr (.inl fo)))] sz) (fun (u : (Nat → Int64) × Int32 × Int32) => [(h0, .inr (2, [w0, w1, w2, .ref on, .int u.2.1, .int u.2.2, .int pa])), (on, .inl (T 1, 7, .inr (.inl u.1)))])) (va_A [(h0, .inr (2, [w0, w1, w2, .ref on, .int dy, .int mu, .int pa])), (on, .inl (T 1, 7, .inr (.inl fo)))] sz)) 0 0 (va_A [(h0, .inr (2, [w0, w1, w2, .ref on, .int dy, .int mu, .int pa])), (on, .inl (T 1, 7, .inr (.inl fo)))] sz) := by
  refine Met.ofW (cc := cX3_enter) (maxL := 4) (ret := none) (by decide +kernel) rfl ?_
  intro p e s m args below meth c s₁ B hml hv
  obtain ⟨rfl, hsz, hP, hE, hD0⟩ := hv
  have hx := B.exec
  have hb := B.bytes
  have hr := B.returns
  have hts := atoms_spec (ws := wsX3_enter) B.pre
  have hown : s.vm.findClass RX3 = some m.cls := findClass_of_methodNamed B.named
  have hlocks := B.notSynchronized
  subst hsz
  have hD := hD0.self (sz := s.heap.size)
  generalize hAe : va_A [(h0, .inr (2, [w0, w1, w2, .ref on, .int dy, .int mu, .int pa])), (on, .inl (T 1, 7, .inr (.inl fo)))] s.heap.size = A at hD ⊢
  have hA : ∀ q : Nat, s.heap.size ≤ q → A q := fun q h => by rw [← hAe]; exact Or.inr h
  have hS : va_S A s.heap s.heap [] := va_S.rf
  have hP : va_P D vwCl [(h0, .inr (2, [w0, w1, w2, .ref on, .int dy, .int mu, .int pa])), (on, .inl (T 1, 7, .inr (.inl fo)))] s.heap := hP
  have hl := lv_entry ([.ref h0, .int x1, .long x2]) (n := 4) (Nat.le_of_ble_eq_true rfl)
  rw [lg_entry_eq]
  generalize (lg_sl ([.ref h0, .int x1, .long x2]) ++ List.replicate (4 - (lg_sl ([.ref h0, .int x1, .long x2])).length) Slot.unset).toArray = ls at hl ⊢
  have hl : lv_has ls 4 [(0, .ref h0), (1, .int x1), (2, .long x2)] := hl
  clear hD0
  refine lv_aload_n hx hb dX3_enter_0 rfl (lv_at hl 0 rfl) ?_
  refine lv_dup hx hb dX3_enter_1 rfl ?_
  refine va_get (D := D) (ci := 2) (v := .int dy) (C := RX3) (T := TX3) (N := 7) hx hb hts in_X3_enter_X3 hown hE.1 hP 0 rfl rfl 4 (by decide +kernel) (hts (.fieldLink RX3 15 "ClauseBook$Falling" "days" "I") (List.mem_of_getElem? (i := 1) rfl)) (fun _ h9 => h9) rfl dX3_enter_2 ?_
  refine lv_iconst (v := 1) hx hb dX3_enter_5 (by decide +kernel) ?_
  refine lv_iload_n hx hb dX3_enter_6 rfl (lv_at hl 1 rfl) ?_
  refine lv_ishl hx hb dX3_enter_7 ?_
  refine lv_ior hx hb dX3_enter_8 ?_
  refine lv_topi (fun z_1 ez_1 => ?_)
  refine va_put (D := D) (ci := 2) (v := .int z_1) (ty := .int) (C := RX3) (T := TX3) (N := 7) hx hb hts in_X3_enter_X3 tyX3 tyX3_ok nmX3 hown hE.1 hP hD hS 0 rfl rfl 4 (by decide +kernel) (hts (.fieldLink RX3 15 "ClauseBook$Falling" "days" "I") (List.mem_of_getElem? (i := 1) rfl)) (fun _ h9 => h9) rfl (by decide +kernel) rfl rfl (Nat.le_of_ble_eq_true rfl) dX3_enter_9 (fun H locs hP hD hS => ?_)
  obtain ⟨hP, hD⟩ := wPD [(h0, .inr (2, [w0, w1, w2, .ref on, .int z_1, .int mu, .int pa])), (on, .inl (T 1, 7, .inr (.inl fo)))] hP hD rfl
  refine lv_aload_n hx hb dX3_enter_12 rfl (lv_at hl 0 rfl) ?_
  refine va_get (D := D) (ci := 2) (v := .ref on) (C := RX3) (T := TX3) (N := 7) hx hb hts in_X3_enter_X3 hown hE.1 hP 0 rfl rfl 3 (by decide +kernel) (hts (.fieldLink RX3 9 "ClauseBook$Falling" "on" "[J") (List.mem_of_getElem? (i := 2) rfl)) (fun _ h9 => h9) rfl dX3_enter_13 ?_
  refine lv_iload_n hx hb dX3_enter_16 rfl (lv_at hl 1 rfl) ?_
  refine va_lald hx hb hE.1 hP 1 1 rfl rfl (by rw [vp_in_iff]; first | omega | (subst_vars; omega)) dX3_enter_17 ?_
  refine lv_topl (fun z_2 ez_2 => ?_)
  refine lv_lload_n hx hb dX3_enter_18 rfl (lv_at hl 2 rfl) ?_
  refine vp_callSi (W.runS (As := [.long z_2, .long x2]) (rest := []) ⟨hx, hb, hml, hown, hts⟩ (c_X11_sumFits l D T z_2 x2) (va_cwS 2 hts gX3_enter_X11_sumFits rfl rfl rfl hs_X11_sumFits ⟨Nat.le_of_ble_eq_true rfl, Nat.le_of_ble_eq_true rfl⟩) (pR_S hP hE [] rfl) rfl rfl hl.1 rfl (lv_room (Nat.le_of_ble_eq_true rfl)) dX3_enter_19 ⟨Nat.le_of_ble_eq_true rfl, Nat.le_of_ble_eq_true rfl⟩) (fun r_3 hr_3 => ?_)
  rcases bool_post hr_3 with ⟨c_4, rfl⟩ | ⟨c_4, rfl⟩
  · refine lv_if_eq (tgt := 38) hx hb dX3_enter_22 (by decide +kernel) (fun c9 => absurd c9 (by decide +kernel)) (fun _ => ?_)
    refine lv_aload_n hx hb dX3_enter_25 rfl (lv_at hl 0 rfl) ?_
    refine va_get (D := D) (ci := 2) (v := .ref on) (C := RX3) (T := TX3) (N := 7) hx hb hts in_X3_enter_X3 hown hE.1 hP 0 rfl rfl 3 (by decide +kernel) (hts (.fieldLink RX3 9 "ClauseBook$Falling" "on" "[J") (List.mem_of_getElem? (i := 2) rfl)) (fun _ h9 => h9) rfl dX3_enter_26 ?_
    refine lv_iload_n hx hb dX3_enter_29 rfl (lv_at hl 1 rfl) ?_
    refine lv_dup2_11 hx hb dX3_enter_30 rfl rfl ?_
    refine va_lald hx hb hE.1 hP 1 1 rfl rfl (by rw [vp_in_iff]; first | omega | (subst_vars; omega)) dX3_enter_31 ?_
    refine lv_topl (fun z_5 ez_5 => ?_)
    refine lv_lload_n hx hb dX3_enter_32 rfl (lv_at hl 2 rfl) ?_
    refine lv_ladd hx hb dX3_enter_33 ?_
    refine va_last hx hb hE.1 hP hD hS 1 1 rfl rfl (by rw [vp_in_iff]; first | omega | (subst_vars; omega)) dX3_enter_34 (fun H locs hP hD hS => ?_)
    obtain ⟨hP, hD⟩ := wPD [(h0, .inr (2, [w0, w1, w2, .ref on, .int z_1, .int mu, .int pa])), (on, .inl (T 1, 7, .inr (.inl (vp_updL fo (x1.toNatClampNeg) (z_5 + x2)))))] hP hD rfl
    refine lv_goto (tgt := 43) hx hb dX3_enter_35 (by decide +kernel) ?_
    exact W.vret hx hb hr (fun t ht hW => ⟨⟨((vp_updL fo (x1.toNatClampNeg) (z_5 + x2)), z_1, mu), rfl, ⟨(fun _ => (by rw [ez_1, ez_5])), (fun q9 => absurd (show fitA z_2 x2 from (by assumption)) (by rw [ez_2]; exact q9))⟩, by rw [ht]; exact hP.sub [0, 1] rfl, hD.sub [0, 1] (by decide +kernel) rfl⟩, hS.F ht⟩) hS.2.2 dX3_enter_43
  · refine lv_if_eq (tgt := 38) hx hb dX3_enter_22 (by decide +kernel) (fun _ => ?_) (fun c9 => absurd c9 (by decide +kernel))
    refine lv_aload_n hx hb dX3_enter_38 rfl (lv_at hl 0 rfl) ?_
    refine lv_iconst (v := 1) hx hb dX3_enter_39 (by decide +kernel) ?_
    refine va_put (D := D) (ci := 2) (v := .int 1) (ty := .boolean) (C := RX3) (T := TX3) (N := 7) hx hb hts in_X3_enter_X3 tyX3 tyX3_ok nmX3 hown hE.1 hP hD hS 0 rfl rfl 5 (by decide +kernel) (hts (.fieldLink RX3 19 "ClauseBook$Falling" "much" "Z") (List.mem_of_getElem? (i := 3) rfl)) (fun _ h9 => h9) rfl (by decide +kernel) rfl rfl (Nat.le_of_ble_eq_true rfl) dX3_enter_40 (fun H locs hP hD hS => ?_)
    obtain ⟨hP, hD⟩ := wPD [(h0, .inr (2, [w0, w1, w2, .ref on, .int z_1, .int 1, .int pa])), (on, .inl (T 1, 7, .inr (.inl fo)))] hP hD rfl
    exact W.vret hx hb hr (fun t ht hW => ⟨⟨(fo, z_1, 1), rfl, ⟨(fun q9 => absurd (show fitA z_2 x2 from by rw [ez_2]; exact q9) (by assumption)), (fun _ => (show ¬ (1 : Int32).toInt = 0 from by decide))⟩, by rw [ht]; exact hP.sub [0, 1] rfl, hD.sub [0, 1] (by decide +kernel) rfl⟩, hS.F ht⟩) hS.2.2 dX3_enter_43
theorem dX3_total_0 : decode cX3_total 0 = .ok (.lconst 0, 1) := by decide +kernel
theorem dX3_total_1 : decode cX3_total 1 = .ok (.lstore_n 3, 1) := by decide +kernel
theorem dX3_total_11 : decode cX3_total 11 = .ok (.lload_n 3, 1) := by decide +kernel
theorem dX3_total_12 : decode cX3_total 12 = .ok (.aload_n 0, 1) := by decide +kernel
theorem dX3_total_13 : decode cX3_total 13 = .ok (.getfield 9, 3) := by decide +kernel
theorem dX3_total_16 : decode cX3_total 16 = .ok (.iload 5, 2) := by decide +kernel
theorem dX3_total_18 : decode cX3_total 18 = .ok (.laload, 1) := by decide +kernel
theorem dX3_total_19 : decode cX3_total 19 = .ok (.invokestatic 107, 3) := by decide +kernel
theorem dX3_total_2 : decode cX3_total 2 = .ok (.iload_n 1, 1) := by decide +kernel
theorem dX3_total_22 : decode cX3_total 22 = .ok (.ifCond .ne 8, 3) := by decide +kernel
theorem dX3_total_25 : decode cX3_total 25 = .ok (.aload_n 0, 1) := by decide +kernel
theorem dX3_total_26 : decode cX3_total 26 = .ok (.iconst 1, 1) := by decide +kernel
theorem dX3_total_27 : decode cX3_total 27 = .ok (.putfield 19, 3) := by decide +kernel
theorem dX3_total_3 : decode cX3_total 3 = .ok (.istore 5, 2) := by decide +kernel
theorem dX3_total_30 : decode cX3_total 30 = .ok (.lload_n 3, 1) := by decide +kernel
theorem dX3_total_31 : decode cX3_total 31 = .ok (.aload_n 0, 1) := by decide +kernel
theorem dX3_total_32 : decode cX3_total 32 = .ok (.getfield 9, 3) := by decide +kernel
theorem dX3_total_35 : decode cX3_total 35 = .ok (.iload 5, 2) := by decide +kernel
theorem dX3_total_37 : decode cX3_total 37 = .ok (.laload, 1) := by decide +kernel
theorem dX3_total_38 : decode cX3_total 38 = .ok (.ladd, 1) := by decide +kernel
theorem dX3_total_39 : decode cX3_total 39 = .ok (.lstore_n 3, 1) := by decide +kernel
theorem dX3_total_40 : decode cX3_total 40 = .ok (.iinc 5 1, 3) := by decide +kernel
theorem dX3_total_43 : decode cX3_total 43 = .ok (.goto (-38), 3) := by decide +kernel
theorem dX3_total_46 : decode cX3_total 46 = .ok (.lload_n 3, 1) := by decide +kernel
theorem dX3_total_47 : decode cX3_total 47 = .ok (.lreturn, 1) := by decide +kernel
theorem dX3_total_5 : decode cX3_total 5 = .ok (.iload 5, 2) := by decide +kernel
theorem dX3_total_7 : decode cX3_total 7 = .ok (.iload_n 2, 1) := by decide +kernel
theorem dX3_total_8 : decode cX3_total 8 = .ok (.if_icmp .ge 38, 3) := by decide +kernel
set_option maxRecDepth 20000 in
theorem ggX3_total_X11_sumFits : GoodIn wsX3_total wsX11_sumFits := goodIn_r _ [6] rfl (by decide +kernel)
set_option maxRecDepth 20000 in
theorem gX3_total_X11_sumFits : GoodIn wsX3_total (va_wsS RX3 107 yX11_sumFits wsX11_sumFits) := goodIn_app (goodIn_of _ (by decide +kernel)) ggX3_total_X11_sumFits
set_option maxRecDepth 20000 in
theorem in_X3_total_X3 : ∀ w ∈ wsX30, w ∈ wsX3_total := sub_r [7, 8, 9, 10, 11, 12, 13] rfl
set_option maxHeartbeats 4000000 in
set_option maxRecDepth 100000 in
theorem c_X3_total (l : Launch) (D : va_G) (T : Nat → ClassId) (sz : Nat) (h0 : Nat) (on : Nat) (w0 : Value) (w1 : Value) (w2 : Value) (dy : Int32) (mu : Int32) (pa : Int32) (fo : Nat → Int64) (x1 : Int32) (x2 : Int32) (hd : (0 ≤ x1.toInt ∧ x1.toInt ≤ x2.toInt) ∧ x2.toInt ≤ 7) : Met l yX3_total wsX3_total ({ frames := 1, cells := 0, slots := 0, locals := 25 }) (pW [.ref h0, .int x1, .int x2] D T [(h0, .inr (2, [w0, w1, w2, .ref on, .int dy, .int mu, .int pa])), (on, .inl (T 1, 7, .inr (.inl fo)))] sz) (va_Ql (fun (r : Int64) (u : Int32) => totP fo x1.toNatClampNeg (x2.toNatClampNeg - x1.toNatClampNeg) r mu u) (bW D (va_A [(h0, .inr (2, [w0, w1, w2, .ref on, .int dy, .int mu, .int pa])), (on, .inl (T 1, 7, .inr (.inl fo)))] sz) (fun (u : Int32) => [(h0, .inr (2, [w0, w1, w2, .ref on, .int dy, .int u, .int pa])), (on, .inl (T 1, 7, .inr (.inl fo)))])) (va_A [(h0, .inr (2, [w0, w1, w2, .ref on, .int dy, .int mu, .int pa])), (on, .inl (T 1, 7, .inr (.inl fo)))] sz)) 0 0 (va_A [(h0, .inr (2, [w0, w1, w2, .ref on, .int dy, .int mu, .int pa])), (on, .inl (T 1, 7, .inr (.inl fo)))] sz) := by
  refine Met.ofW (cc := cX3_total) (maxL := 6) (ret := (some .long)) (by decide +kernel) rfl ?_
  intro p e s m args below meth c s₁ B hml hv
  obtain ⟨rfl, hsz, hP, hE, hD0⟩ := hv
  have hx := B.exec
  have hb := B.bytes
  have hr := B.returns
  have hts := atoms_spec (ws := wsX3_total) B.pre
  have hown : s.vm.findClass RX3 = some m.cls := findClass_of_methodNamed B.named
  have hlocks := B.notSynchronized
  subst hsz
  have hD := hD0.self (sz := s.heap.size)
  generalize hAe : va_A [(h0, .inr (2, [w0, w1, w2, .ref on, .int dy, .int mu, .int pa])), (on, .inl (T 1, 7, .inr (.inl fo)))] s.heap.size = A at hD ⊢
  have hA : ∀ q : Nat, s.heap.size ≤ q → A q := fun q h => by rw [← hAe]; exact Or.inr h
  have hS : va_S A s.heap s.heap [] := va_S.rf
  have hP : va_P D vwCl [(h0, .inr (2, [w0, w1, w2, .ref on, .int dy, .int mu, .int pa])), (on, .inl (T 1, 7, .inr (.inl fo)))] s.heap := hP
  have hl := lv_entry ([.ref h0, .int x1, .int x2]) (n := 6) (Nat.le_of_ble_eq_true rfl)
  rw [lg_entry_eq]
  generalize (lg_sl ([.ref h0, .int x1, .int x2]) ++ List.replicate (6 - (lg_sl ([.ref h0, .int x1, .int x2])).length) Slot.unset).toArray = ls at hl ⊢
  have hl : lv_has ls 6 [(0, .ref h0), (1, .int x1), (2, .int x2)] := hl
  clear hD0
  refine lv_lconst (v := 0) hx hb dX3_total_0 (by decide +kernel) ?_
  refine lv_lstore_n (lv' := [(3, .long 0), (0, .ref h0), (1, .int x1), (2, .int x2)]) hx hb dX3_total_1 rfl hl (by decide +kernel) rfl (fun ls hl => ?_)
  refine lv_iload_n hx hb dX3_total_2 rfl (lv_at hl 2 rfl) ?_
  refine lv_istore (lv' := [(5, .int x1), (3, .long 0), (0, .ref h0), (1, .int x1), (2, .int x2)]) hx hb dX3_total_3 hl (by decide +kernel) rfl (fun ls hl => ?_)
  refine loopW (σ := (Int32) × (Int64) × (Int32)) (fun x9 ls H locs => lv_has ls 6 [(5, .int x9.1), (3, .long x9.2.1), (0, .ref h0), (1, .int x1), (2, .int x2)] ∧ va_P D vwCl [(h0, .inr (2, [w0, w1, w2, .ref on, .int dy, .int x9.2.2, .int pa])), (on, .inl (T 1, 7, .inr (.inl fo)))] H ∧ va_D A [(h0, .inr (2, [w0, w1, w2, .ref on, .int dy, .int x9.2.2, .int pa])), (on, .inl (T 1, 7, .inr (.inl fo)))] ∧ va_S A s.heap H locs ∧ ((x1.toInt ≤ x9.1.toInt ∧ x9.1.toInt ≤ x2.toInt) ∧ totP fo x1.toNatClampNeg (x9.1.toNatClampNeg - x1.toNatClampNeg) x9.2.1 mu x9.2.2)) (fun x9 => (7 - x9.1.toInt).toNat) (fun x9 ls H locs hI ih => ?_) (x1, 0, mu) ls ⟨lv_sub hl [0, 1, 2, 3, 4] rfl, hP.sub [0, 1] rfl, hD.sub [0, 1] (by decide +kernel) rfl, hS, ⟨⟨(by (try dsimp only); omega), (by (try dsimp only); omega)⟩, tot_i⟩⟩
  obtain ⟨tt, al, mm⟩ := x9
  obtain ⟨hl, hP, hD, hS, hinv⟩ := hI
  have hl : lv_has ls 6 [(5, .int tt), (3, .long al), (0, .ref h0), (1, .int x1), (2, .int x2)] := hl
  have hP : va_P D vwCl [(h0, .inr (2, [w0, w1, w2, .ref on, .int dy, .int mm, .int pa])), (on, .inl (T 1, 7, .inr (.inl fo)))] H := hP
  have hD : va_D A [(h0, .inr (2, [w0, w1, w2, .ref on, .int dy, .int mm, .int pa])), (on, .inl (T 1, 7, .inr (.inl fo)))] := hD
  have hinv : (x1.toInt ≤ tt.toInt ∧ tt.toInt ≤ x2.toInt) ∧ totP fo x1.toNatClampNeg (tt.toNatClampNeg - x1.toNatClampNeg) al mu mm := hinv
  obtain ⟨htt, htot⟩ := hinv
  refine lv_iload hx hb dX3_total_5 (lv_at hl 0 rfl) ?_
  refine lv_iload_n hx hb dX3_total_7 rfl (lv_at hl 4 rfl) ?_
  refine lv_icmp_ge (tgt := 46) hx hb dX3_total_8 (by decide +kernel) (fun c_1 => ?_) (fun c_1 => ?_)
  · rw [fa_le] at c_1
    refine lv_lload_n hx hb dX3_total_46 rfl (lv_at hl 1 rfl) ?_
    exact W.lret hx hb hr (fun t ht hW => ⟨⟨_, mm, rfl, (by have h9 : tt.toNatClampNeg = x2.toNatClampNeg := (by have ht7 := tn (x := tt) (by omega); have ht8 := tn (x := x2) (by omega); omega); rw [← h9]; exact htot), by rw [ht]; exact hP.sub [0, 1] rfl, hD.sub [0, 1] (by decide +kernel) rfl⟩, hS.F ht⟩) hS.2.2 dX3_total_47
  · rw [fa_le] at c_1
    refine lv_lload_n hx hb dX3_total_11 rfl (lv_at hl 1 rfl) ?_
    refine lv_aload_n hx hb dX3_total_12 rfl (lv_at hl 2 rfl) ?_
    refine va_get (D := D) (ci := 2) (v := .ref on) (C := RX3) (T := TX3) (N := 7) hx hb hts in_X3_total_X3 hown hE.1 hP 0 rfl rfl 3 (by decide +kernel) (hts (.fieldLink RX3 9 "ClauseBook$Falling" "on" "[J") (List.mem_of_getElem? (i := 1) rfl)) (fun _ h9 => h9) rfl dX3_total_13 ?_
    refine lv_iload hx hb dX3_total_16 (lv_at hl 0 rfl) ?_
    refine va_lald hx hb hE.1 hP 1 1 rfl rfl (by rw [vp_in_iff]; first | omega | (subst_vars; omega)) dX3_total_18 ?_
    refine lv_topl (fun z_2 ez_2 => ?_)
    refine vp_callSi (W.runS (As := [.long al, .long z_2]) (rest := []) ⟨hx, hb, hml, hown, hts⟩ (c_X11_sumFits l D T al z_2) (va_cwS 2 hts gX3_total_X11_sumFits rfl rfl rfl hs_X11_sumFits ⟨Nat.le_of_ble_eq_true rfl, Nat.le_of_ble_eq_true rfl⟩) (pR_S hP hE [] rfl) rfl rfl hl.1 rfl (lv_room (Nat.le_of_ble_eq_true rfl)) dX3_total_19 ⟨Nat.le_of_ble_eq_true rfl, Nat.le_of_ble_eq_true rfl⟩) (fun r_3 hr_3 => ?_)
    rcases bool_post hr_3 with ⟨c_4, rfl⟩ | ⟨c_4, rfl⟩
    · refine lv_if_ne (tgt := 30) hx hb dX3_total_22 (by decide +kernel) (fun _ => ?_) (fun c9 => absurd c9 (by decide +kernel))
      refine lv_lload_n hx hb dX3_total_30 rfl (lv_at hl 1 rfl) ?_
      refine lv_aload_n hx hb dX3_total_31 rfl (lv_at hl 2 rfl) ?_
      refine va_get (D := D) (ci := 2) (v := .ref on) (C := RX3) (T := TX3) (N := 7) hx hb hts in_X3_total_X3 hown hE.1 hP 0 rfl rfl 3 (by decide +kernel) (hts (.fieldLink RX3 9 "ClauseBook$Falling" "on" "[J") (List.mem_of_getElem? (i := 1) rfl)) (fun _ h9 => h9) rfl dX3_total_32 ?_
      refine lv_iload hx hb dX3_total_35 (lv_at hl 0 rfl) ?_
      refine va_lald hx hb hE.1 hP 1 1 rfl rfl (by rw [vp_in_iff]; first | omega | (subst_vars; omega)) dX3_total_37 ?_
      refine lv_topl (fun z_5 ez_5 => ?_)
      refine lv_ladd hx hb dX3_total_38 ?_
      refine lv_topl (fun z_6 ez_6 => ?_)
      refine lv_lstore_n (lv' := [(3, .long z_6), (5, .int tt), (0, .ref h0), (1, .int x1), (2, .int x2)]) hx hb dX3_total_39 rfl hl (by decide +kernel) rfl (fun ls hl => ?_)
      obtain ⟨z_7, ez_7⟩ : ∃ y : Int32, y = tt + 1 := ⟨_, rfl⟩
      refine lv_iinc (v := z_7) (lv' := [(5, .int z_7), (3, .long z_6), (0, .ref h0), (1, .int x1), (2, .int x2)]) hx hb dX3_total_40 hl (k := 1) rfl (by rw [ez_7]; rfl) (by decide +kernel) rfl (fun ls hl => ?_)
      refine lv_goto (tgt := 5) hx hb dX3_total_43 (by decide +kernel) ?_
      have hi9 : z_7.toInt = tt.toInt + 1 := by rw [ez_7]; exact inc1 (i := tt) (n := 1000) (by omega) (by decide +kernel)
      have ht7 := tn (x := tt) (by omega)
      have ht8 := tn (x := x1) (by omega)
      have ht9 := tn (x := z_7) (by omega)
      have hk9 : z_7.toNatClampNeg - x1.toNatClampNeg = (tt.toNatClampNeg - x1.toNatClampNeg) + 1 := by omega
      have hk8 : x1.toNatClampNeg + (tt.toNatClampNeg - x1.toNatClampNeg) = tt.toNatClampNeg := by omega
      exact ih (z_7, z_6, mm) ls _ _ ⟨lv_sub hl [0, 1, 2, 3, 4] rfl, hP.sub [0, 1] rfl, hD.sub [0, 1] (by decide +kernel) rfl, hS, ⟨⟨(by (try dsimp only); omega), (by (try dsimp only); omega)⟩, (by (try dsimp only); rw [hk9, ez_6]; exact tot_y htot (by rw [hk8]; exact ez_2) (by rw [hk8]; exact ez_5) (show fitA al z_2 from by assumption))⟩⟩ (by (try dsimp only); omega)
    · refine lv_if_ne (tgt := 30) hx hb dX3_total_22 (by decide +kernel) (fun c9 => absurd c9 (by decide +kernel)) (fun _ => ?_)
      refine lv_aload_n hx hb dX3_total_25 rfl (lv_at hl 2 rfl) ?_
      refine lv_iconst (v := 1) hx hb dX3_total_26 (by decide +kernel) ?_
      refine va_put (D := D) (ci := 2) (v := .int 1) (ty := .boolean) (C := RX3) (T := TX3) (N := 7) hx hb hts in_X3_total_X3 tyX3 tyX3_ok nmX3 hown hE.1 hP hD hS 0 rfl rfl 5 (by decide +kernel) (hts (.fieldLink RX3 19 "ClauseBook$Falling" "much" "Z") (List.mem_of_getElem? (i := 2) rfl)) (fun _ h9 => h9) rfl (by decide +kernel) rfl rfl (Nat.le_of_ble_eq_true rfl) dX3_total_27 (fun H locs hP hD hS => ?_)
      obtain ⟨hP, hD⟩ := wPD [(h0, .inr (2, [w0, w1, w2, .ref on, .int dy, .int 1, .int pa])), (on, .inl (T 1, 7, .inr (.inl fo)))] hP hD rfl
      refine lv_lload_n hx hb dX3_total_30 rfl (lv_at hl 1 rfl) ?_
      refine lv_aload_n hx hb dX3_total_31 rfl (lv_at hl 2 rfl) ?_
      refine va_get (D := D) (ci := 2) (v := .ref on) (C := RX3) (T := TX3) (N := 7) hx hb hts in_X3_total_X3 hown hE.1 hP 0 rfl rfl 3 (by decide +kernel) (hts (.fieldLink RX3 9 "ClauseBook$Falling" "on" "[J") (List.mem_of_getElem? (i := 1) rfl)) (fun _ h9 => h9) rfl dX3_total_32 ?_
      refine lv_iload hx hb dX3_total_35 (lv_at hl 0 rfl) ?_
      refine va_lald hx hb hE.1 hP 1 1 rfl rfl (by rw [vp_in_iff]; first | omega | (subst_vars; omega)) dX3_total_37 ?_
      refine lv_topl (fun z_8 ez_8 => ?_)
      refine lv_ladd hx hb dX3_total_38 ?_
      refine lv_topl (fun z_9 ez_9 => ?_)
      refine lv_lstore_n (lv' := [(3, .long z_9), (5, .int tt), (0, .ref h0), (1, .int x1), (2, .int x2)]) hx hb dX3_total_39 rfl hl (by decide +kernel) rfl (fun ls hl => ?_)
      obtain ⟨z_10, ez_10⟩ : ∃ y : Int32, y = tt + 1 := ⟨_, rfl⟩
      refine lv_iinc (v := z_10) (lv' := [(5, .int z_10), (3, .long z_9), (0, .ref h0), (1, .int x1), (2, .int x2)]) hx hb dX3_total_40 hl (k := 1) rfl (by rw [ez_10]; rfl) (by decide +kernel) rfl (fun ls hl => ?_)
      refine lv_goto (tgt := 5) hx hb dX3_total_43 (by decide +kernel) ?_
      have hi9 : z_10.toInt = tt.toInt + 1 := by rw [ez_10]; exact inc1 (i := tt) (n := 1000) (by omega) (by decide +kernel)
      have ht7 := tn (x := tt) (by omega)
      have ht8 := tn (x := x1) (by omega)
      have ht9 := tn (x := z_10) (by omega)
      have hk9 : z_10.toNatClampNeg - x1.toNatClampNeg = (tt.toNatClampNeg - x1.toNatClampNeg) + 1 := by omega
      have hk8 : x1.toNatClampNeg + (tt.toNatClampNeg - x1.toNatClampNeg) = tt.toNatClampNeg := by omega
      exact ih (z_10, z_9, 1) ls _ _ ⟨lv_sub hl [0, 1, 2, 3, 4] rfl, hP.sub [0, 1] rfl, hD.sub [0, 1] (by decide +kernel) rfl, hS, ⟨⟨(by (try dsimp only); omega), (by (try dsimp only); omega)⟩, (by (try dsimp only); rw [hk9, ez_9]; exact tot_n htot (by rw [hk8]; exact ez_2) (by rw [hk8]; exact ez_8) (show ¬ fitA al z_2 from by assumption) (by decide +kernel))⟩⟩ (by (try dsimp only); omega)
