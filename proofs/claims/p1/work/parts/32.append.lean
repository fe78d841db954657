theorem dX2_kindOf_0 : decode cX2_kindOf 0 = .ok (.getstatic 41, 3) := by decide +kernel
theorem dX2_kindOf_10 : decode cX2_kindOf 10 = .ok (.areturn, 1) := by decide +kernel
theorem dX2_kindOf_3 : decode cX2_kindOf 3 = .ok (.aload_n 0, 1) := by decide +kernel
theorem dX2_kindOf_4 : decode cX2_kindOf 4 = .ok (.getfield 15, 3) := by decide +kernel
theorem dX2_kindOf_7 : decode cX2_kindOf 7 = .ok (.iload_n 1, 1) := by decide +kernel
theorem dX2_kindOf_8 : decode cX2_kindOf 8 = .ok (.iaload, 1) := by decide +kernel
theorem dX2_kindOf_9 : decode cX2_kindOf 9 = .ok (.aaload, 1) := by decide +kernel
set_option maxRecDepth 20000 in
theorem in_X2_kindOf_X2 : ∀ w ∈ wsX20, w ∈ wsX2_kindOf := by decide +kernel
set_option maxHeartbeats 4000000 in
set_option maxRecDepth 100000 in
theorem f_X2_kindOf_0 (l : Launch) (D : va_G) (T : Nat → ClassId) (ad sa av : Nat → Nat) (ta : Nat) (h0 : Nat) (fs0 : List Value) (c1 : Nat) (f1 : Nat → Int32) (e0_1 : fs0[1]? = some (.ref c1)) (ek0 : f1 0 = 0) : Met l yX2_kindOf wsX2_kindOf ({ frames := 0, cells := 0, slots := 0, locals := 0 }) (pRk [.ref h0, .int 0] D T [(h0, .inr (1, fs0)), (c1, .inl (T 0, 24, .inl f1))] ad sa av ta) (va_Se ad (fun r => r = some 0)) 0 0 (fun _ => False) := by
  refine Met.ofW (cc := cX2_kindOf) (maxL := 2) (ret := (some (.object "ClauseBook$Kind"))) (by decide) rfl ?_
  intro p e s m args below meth c s₁ B hml hv
  obtain ⟨rfl, hP, hE, hV⟩ := hv
  have hS : va_S (fun _ => False) s.heap s.heap [] := va_S.rf
  have hx := B.exec
  have hb := B.bytes
  have hr := B.returns
  have hts := atoms_spec (ws := wsX2_kindOf) B.pre
  have hown : s.vm.findClass RX2 = some m.cls := findClass_of_methodNamed B.named
  have hlocks := B.notSynchronized
  have hP : va_P D vwCl [(h0, .inr (1, fs0)), (c1, .inl (T 0, 24, .inl f1))] s.heap := hP
  have hl := lv_entry ([.ref h0, .int 0]) (n := 2) (Nat.le_of_ble_eq_true rfl)
  rw [lg_entry_eq]
  generalize (lg_sl ([.ref h0, .int 0]) ++ List.replicate (2 - (lg_sl ([.ref h0, .int 0])).length) Slot.unset).toArray = ls at hl ⊢
  have hl : lv_has ls 2 [(0, .ref h0), (1, .int 0)] := hl
  refine va_getsN (v := .ref ta) hx hb hV.1.2.1 hS hown (va_Nw.use rfl (hE.2.2.1 _ (List.mem_of_getElem? (i := 1) rfl))) (fun _ h9 => h9) dX2_kindOf_0 ?_
  refine lv_aload_n hx hb dX2_kindOf_3 rfl (lv_at hl 0 rfl) ?_
  refine va_get (D := D) (ci := 1) (v := .ref c1) (C := RX2) (T := TX2) (N := 8) hx hb hts in_X2_kindOf_X2 hown hE.1 hP 0 rfl rfl 1 (by decide) (hts (.fieldLink RX2 15 "ClauseBook$Clauses" "kind" "[I") (List.mem_of_getElem? (i := 1) rfl)) (fun _ h9 => h9) e0_1 dX2_kindOf_4 ?_
  refine lv_iload_n hx hb dX2_kindOf_7 rfl (lv_at hl 1 rfl) ?_
  refine va_iald hx hb hE.1 hP 1 0 rfl rfl (by unfold vp_in; decide) dX2_kindOf_8 ?_
  refine lv_topi (fun z_1 ez_1 => ?_)
  obtain rfl : z_1 = 0 := ez_1.trans ek0
  refine vb_tq (v := .ref (ad 0)) hx hb hV.1.2.2 hS (by unfold vp_in; decide) rfl dX2_kindOf_9 ?_
  exact W.aret (v := .ref (ad 0)) hx hb hr (Or.inl ⟨_, rfl⟩) (Or.inr ⟨_, rfl⟩) (fun t ht hW => ⟨some 0, rfl, rfl, ht⟩) (fun _ h => by cases h) dX2_kindOf_10
theorem dX2_measure_0 : decode cX2_measure 0 = .ok (.aload_n 0, 1) := by decide +kernel
theorem dX2_measure_1 : decode cX2_measure 1 = .ok (.iload_n 1, 1) := by decide +kernel
theorem dX2_measure_11 : decode cX2_measure 11 = .ok (.istore_n 3, 1) := by decide +kernel
theorem dX2_measure_119 : decode cX2_measure 119 = .ok (.aload_n 0, 1) := by decide +kernel
theorem dX2_measure_12 : decode cX2_measure 12 = .ok (.iconst 1, 1) := by decide +kernel
theorem dX2_measure_120 : decode cX2_measure 120 = .ok (.iload_n 1, 1) := by decide +kernel
theorem dX2_measure_121 : decode cX2_measure 121 = .ok (.invokevirtual 51, 3) := by decide +kernel
theorem dX2_measure_124 : decode cX2_measure 124 = .ok (.getstatic 68, 3) := by decide +kernel
theorem dX2_measure_127 : decode cX2_measure 127 = .ok (.if_acmp .ne 14, 3) := by decide +kernel
theorem dX2_measure_13 : decode cX2_measure 13 = .ok (.istore 4, 2) := by decide +kernel
theorem dX2_measure_141 : decode cX2_measure 141 = .ok (.aload_n 0, 1) := by decide +kernel
theorem dX2_measure_142 : decode cX2_measure 142 = .ok (.getfield 28, 3) := by decide +kernel
theorem dX2_measure_145 : decode cX2_measure 145 = .ok (.iload_n 1, 1) := by decide +kernel
theorem dX2_measure_146 : decode cX2_measure 146 = .ok (.iload_n 3, 1) := by decide +kernel
theorem dX2_measure_147 : decode cX2_measure 147 = .ok (.iastore, 1) := by decide +kernel
theorem dX2_measure_148 : decode cX2_measure 148 = .ok (.aload_n 0, 1) := by decide +kernel
theorem dX2_measure_149 : decode cX2_measure 149 = .ok (.getfield 31, 3) := by decide +kernel
theorem dX2_measure_15 : decode cX2_measure 15 = .ok (.iconst 0, 1) := by decide +kernel
theorem dX2_measure_152 : decode cX2_measure 152 = .ok (.iload_n 1, 1) := by decide +kernel
theorem dX2_measure_153 : decode cX2_measure 153 = .ok (.iload 4, 2) := by decide +kernel
theorem dX2_measure_155 : decode cX2_measure 155 = .ok (.iastore, 1) := by decide +kernel
theorem dX2_measure_156 : decode cX2_measure 156 = .ok (.aload_n 0, 1) := by decide +kernel
theorem dX2_measure_157 : decode cX2_measure 157 = .ok (.getfield 34, 3) := by decide +kernel
theorem dX2_measure_16 : decode cX2_measure 16 = .ok (.istore 5, 2) := by decide +kernel
theorem dX2_measure_160 : decode cX2_measure 160 = .ok (.iload_n 1, 1) := by decide +kernel
theorem dX2_measure_161 : decode cX2_measure 161 = .ok (.iload 5, 2) := by decide +kernel
theorem dX2_measure_163 : decode cX2_measure 163 = .ok (.iconst 1, 1) := by decide +kernel
theorem dX2_measure_164 : decode cX2_measure 164 = .ok (.iadd, 1) := by decide +kernel
theorem dX2_measure_165 : decode cX2_measure 165 = .ok (.iastore, 1) := by decide +kernel
theorem dX2_measure_166 : decode cX2_measure 166 = .ok (.return_, 1) := by decide +kernel
theorem dX2_measure_18 : decode cX2_measure 18 = .ok (.iload_n 2, 1) := by decide +kernel
theorem dX2_measure_19 : decode cX2_measure 19 = .ok (.iconst 1, 1) := by decide +kernel
theorem dX2_measure_2 : decode cX2_measure 2 = .ok (.invokevirtual 51, 3) := by decide +kernel
theorem dX2_measure_20 : decode cX2_measure 20 = .ok (.if_icmp .lt 44, 3) := by decide +kernel
theorem dX2_measure_5 : decode cX2_measure 5 = .ok (.getfield 55, 3) := by decide +kernel
theorem dX2_measure_64 : decode cX2_measure 64 = .ok (.iload_n 2, 1) := by decide +kernel
theorem dX2_measure_65 : decode cX2_measure 65 = .ok (.iconst 2, 1) := by decide +kernel
theorem dX2_measure_66 : decode cX2_measure 66 = .ok (.if_icmp .ne 53, 3) := by decide +kernel
theorem dX2_measure_8 : decode cX2_measure 8 = .ok (.istore_n 2, 1) := by decide +kernel
theorem dX2_measure_9 : decode cX2_measure 9 = .ok (.bipush 6, 2) := by decide +kernel
set_option maxRecDepth 20000 in
theorem ggX2_measure_X2_kindOf : GoodIn wsX2_measure wsX2_kindOf := goodIn_r _ [20, 21, 22, 23, 24, 25, 26, 27, 28, 29] (by decide +kernel) (by decide +kernel)
set_option maxRecDepth 20000 in
theorem gX2_measure_X2_kindOf : GoodIn wsX2_measure (wsV RX2 51 RX2 yX2_kindOf wsX2_kindOf) := goodIn_app (goodIn_of _ (by decide +kernel)) ggX2_measure_X2_kindOf
set_option maxRecDepth 20000 in
theorem in_X2_measure_X2 : ∀ w ∈ wsX20, w ∈ wsX2_measure := by decide +kernel
set_option maxHeartbeats 4000000 in
set_option maxRecDepth 100000 in
theorem f_X2_measure_0 (l : Launch) (D : va_G) (T : Nat → ClassId) (ad sa av : Nat → Nat) (ta : Nat) (sz : Nat) (h0 : Nat) (n0 : Int32) (c1 : Nat) (c2 : Nat) (c3 : Nat) (c4 : Nat) (c5 : Nat) (c6 : Nat) (c7 : Nat) (f1 : Nat → Int32) (f5 : Nat → Int32) (f6 : Nat → Int32) (f7 : Nat → Int32) (ek0 : f1 0 = 0) : Met l yX2_measure wsX2_measure ({ frames := 1, cells := 0, slots := 0, locals := 21 }) (pWk [.ref h0, .int 0] D T [(h0, .inr (1, [.int n0, .ref c1, .ref c2, .ref c3, .ref c4, .ref c5, .ref c6, .ref c7])), (c1, .inl (T 0, 24, .inl f1)), (c5, .inl (T 0, 24, .inl f5)), (c6, .inl (T 0, 24, .inl f6)), (c7, .inl (T 0, 24, .inl f7))] sz ad sa av ta) (va_Qv (fun (u : Unit) => True) (bW D (va_A [(h0, .inr (1, [.int n0, .ref c1, .ref c2, .ref c3, .ref c4, .ref c5, .ref c6, .ref c7])), (c1, .inl (T 0, 24, .inl f1)), (c5, .inl (T 0, 24, .inl f5)), (c6, .inl (T 0, 24, .inl f6)), (c7, .inl (T 0, 24, .inl f7))] sz) (fun (u : Unit) => [(h0, .inr (1, [.int n0, .ref c1, .ref c2, .ref c3, .ref c4, .ref c5, .ref c6, .ref c7]))])) (va_A [(h0, .inr (1, [.int n0, .ref c1, .ref c2, .ref c3, .ref c4, .ref c5, .ref c6, .ref c7])), (c1, .inl (T 0, 24, .inl f1)), (c5, .inl (T 0, 24, .inl f5)), (c6, .inl (T 0, 24, .inl f6)), (c7, .inl (T 0, 24, .inl f7))] sz)) 0 0 (va_A [(h0, .inr (1, [.int n0, .ref c1, .ref c2, .ref c3, .ref c4, .ref c5, .ref c6, .ref c7])), (c1, .inl (T 0, 24, .inl f1)), (c5, .inl (T 0, 24, .inl f5)), (c6, .inl (T 0, 24, .inl f6)), (c7, .inl (T 0, 24, .inl f7))] sz) := by
  refine Met.ofW (cc := cX2_measure) (maxL := 6) (ret := none) (by decide) rfl ?_
  intro p e s m args below meth c s₁ B hml hv
  obtain ⟨rfl, hsz, hP, hE, hD0, hV⟩ := hv
  have hx := B.exec
  have hb := B.bytes
  have hr := B.returns
  have hts := atoms_spec (ws := wsX2_measure) B.pre
  have hown : s.vm.findClass RX2 = some m.cls := findClass_of_methodNamed B.named
  have hlocks := B.notSynchronized
  subst hsz
  have hD := hD0.self (sz := s.heap.size)
  generalize hAe : va_A [(h0, .inr (1, [.int n0, .ref c1, .ref c2, .ref c3, .ref c4, .ref c5, .ref c6, .ref c7])), (c1, .inl (T 0, 24, .inl f1)), (c5, .inl (T 0, 24, .inl f5)), (c6, .inl (T 0, 24, .inl f6)), (c7, .inl (T 0, 24, .inl f7))] s.heap.size = A at hD hV ⊢
  have hA : ∀ q : Nat, s.heap.size ≤ q → A q := fun q h => by rw [← hAe]; exact Or.inr h
  have hS : va_S A s.heap s.heap [] := va_S.rf
  have hP : va_P D vwCl [(h0, .inr (1, [.int n0, .ref c1, .ref c2, .ref c3, .ref c4, .ref c5, .ref c6, .ref c7])), (c1, .inl (T 0, 24, .inl f1)), (c5, .inl (T 0, 24, .inl f5)), (c6, .inl (T 0, 24, .inl f6)), (c7, .inl (T 0, 24, .inl f7))] s.heap := hP
  have hl := lv_entry ([.ref h0, .int 0]) (n := 6) (Nat.le_of_ble_eq_true rfl)
  rw [lg_entry_eq]
  generalize (lg_sl ([.ref h0, .int 0]) ++ List.replicate (6 - (lg_sl ([.ref h0, .int 0])).length) Slot.unset).toArray = ls at hl ⊢
  have hl : lv_has ls 6 [(0, .ref h0), (1, .int 0)] := hl
  clear hD0
  refine lv_aload_n hx hb dX2_measure_0 rfl (lv_at hl 0 rfl) ?_
  refine lv_iload_n hx hb dX2_measure_1 rfl (lv_at hl 1 rfl) ?_
  refine va_cse (W.runV (As := [.int 0]) (rest := []) ⟨hx, hb, hml, hown, hts⟩ (f_X2_kindOf_0 l D T ad sa av ta h0 [.int n0, .ref c1, .ref c2, .ref c3, .ref c4, .ref c5, .ref c6, .ref c7] c1 f1 rfl ek0) (cwV 1 hts gX2_measure_X2_kindOf rfl rfl rfl (by decide +kernel) ⟨Nat.le_of_ble_eq_true rfl, Nat.le_of_ble_eq_true rfl⟩) (pRk_V (ci := 1) (q0 := 0) hP hE hV hS rfl rfl [0, 1] rfl) rfl rfl hl.1 rfl (lv_room (Nat.le_of_ble_eq_true rfl)) dX2_measure_2 ⟨Nat.le_of_ble_eq_true rfl, Nat.le_of_ble_eq_true rfl⟩) (fun r_1 hr_1 => ?_)
  subst hr_1
  refine W.eq (g2 := F0 m 5 ls [.ref (ad 0)]) rfl ?_
  refine va_getE (i := 0) hx hb hV.1.1 (by decide) hS hown (q := kdQ "names" [0, 0, 1, 1, 1, 2, 2, 2, 1, 2, 1, 1, 2]) (List.mem_of_getElem? (i := 0) rfl) (hts (.fieldLink RX2 55 "ClauseBook$Kind" "names" "I") (List.mem_of_getElem? (i := 1) rfl)) (fun _ h9 => h9) dX2_measure_5 ?_
  refine W.eq (g2 := F0 m 8 ls [.int 0]) rfl ?_
  refine lv_istore_n (lv' := [(2, .int 0), (0, .ref h0), (1, .int 0)]) hx hb dX2_measure_8 rfl hl (by decide) rfl (fun ls hl => ?_)
  refine lv_bipush (v := 6) hx hb dX2_measure_9 (by decide) ?_
  refine lv_istore_n (lv' := [(3, .int 6), (2, .int 0), (0, .ref h0), (1, .int 0)]) hx hb dX2_measure_11 rfl hl (by decide) rfl (fun ls hl => ?_)
  refine lv_iconst (v := 1) hx hb dX2_measure_12 (by decide) ?_
  refine lv_istore (lv' := [(4, .int 1), (3, .int 6), (2, .int 0), (0, .ref h0), (1, .int 0)]) hx hb dX2_measure_13 hl (by decide) rfl (fun ls hl => ?_)
  refine lv_iconst (v := 0) hx hb dX2_measure_15 (by decide) ?_
  refine lv_istore (lv' := [(5, .int 0), (4, .int 1), (3, .int 6), (2, .int 0), (0, .ref h0), (1, .int 0)]) hx hb dX2_measure_16 hl (by decide) rfl (fun ls hl => ?_)
  refine lv_iload_n hx hb dX2_measure_18 rfl (lv_at hl 3 rfl) ?_
  refine lv_iconst (v := 1) hx hb dX2_measure_19 (by decide) ?_
  refine lv_icmp_lt (tgt := 64) hx hb dX2_measure_20 (by decide) (fun _ => ?_) (fun c9 => absurd c9 (by decide))
  refine lv_iload_n hx hb dX2_measure_64 rfl (lv_at hl 3 rfl) ?_
  refine lv_iconst (v := 2) hx hb dX2_measure_65 (by decide) ?_
  refine lv_icmp_ne (tgt := 119) hx hb dX2_measure_66 (by decide) (fun _ => ?_) (fun c9 => absurd c9 (by decide))
  refine lv_aload_n hx hb dX2_measure_119 rfl (lv_at hl 4 rfl) ?_
  refine lv_iload_n hx hb dX2_measure_120 rfl (lv_at hl 5 rfl) ?_
  refine va_cse (W.runV (As := [.int 0]) (rest := []) ⟨hx, hb, hml, hown, hts⟩ (f_X2_kindOf_0 l D T ad sa av ta h0 [.int n0, .ref c1, .ref c2, .ref c3, .ref c4, .ref c5, .ref c6, .ref c7] c1 f1 rfl ek0) (cwV 1 hts gX2_measure_X2_kindOf rfl rfl rfl (by decide +kernel) ⟨Nat.le_of_ble_eq_true rfl, Nat.le_of_ble_eq_true rfl⟩) (pRk_V (ci := 1) (q0 := 0) hP hE hV hS rfl rfl [0, 1] rfl) rfl rfl hl.1 rfl (lv_room (Nat.le_of_ble_eq_true rfl)) dX2_measure_121 ⟨Nat.le_of_ble_eq_true rfl, Nat.le_of_ble_eq_true rfl⟩) (fun r_2 hr_2 => ?_)
  subst hr_2
  refine W.eq (g2 := F0 m 124 ls [.ref (ad 0)]) rfl ?_
  refine va_gets (v := .ref (ad 8)) hx hb (hV.1.1.1 8 (by decide)).1 hS hown (hts (.fieldLink RX2 68 "ClauseBook$Kind" "UNTIL" "LClauseBook$Kind;") (List.mem_of_getElem? (i := 11) rfl)) (fun _ h9 => h9) dX2_measure_124 ?_
  refine lv_acmp_ne (rx := some (ad 0)) (ry := some (ad 8)) (tgt := 141) hx hb dX2_measure_127 (by decide) (fun _ => ?_) (fun c9 => absurd c9 (fun h => absurd (hV.1.1.2 0 8 (by decide) (by decide) (Option.some.inj h)) (by decide)))
  refine lv_aload_n hx hb dX2_measure_141 rfl (lv_at hl 4 rfl) ?_
  refine va_get (D := D) (ci := 1) (v := .ref c5) (C := RX2) (T := TX2) (N := 8) hx hb hts in_X2_measure_X2 hown hE.1 hP 0 rfl rfl 5 (by decide) (hts (.fieldLink RX2 28 "ClauseBook$Clauses" "end" "[I") (List.mem_of_getElem? (i := 2) rfl)) (fun _ h9 => h9) rfl dX2_measure_142 ?_
  refine lv_iload_n hx hb dX2_measure_145 rfl (lv_at hl 5 rfl) ?_
  refine lv_iload_n hx hb dX2_measure_146 rfl (lv_at hl 2 rfl) ?_
  refine va_iast hx hb hE.1 hP hD hS 2 0 rfl rfl (by unfold vp_in; decide) dX2_measure_147 (fun H locs hP hD hS => ?_)
  have hP : va_P D vwCl [(h0, .inr (1, [.int n0, .ref c1, .ref c2, .ref c3, .ref c4, .ref c5, .ref c6, .ref c7])), (c1, .inl (T 0, 24, .inl f1)), (c5, .inl (T 0, 24, .inl (upd f5 0 6))), (c6, .inl (T 0, 24, .inl f6)), (c7, .inl (T 0, 24, .inl f7))] H := hP
  have hD : va_D A [(h0, .inr (1, [.int n0, .ref c1, .ref c2, .ref c3, .ref c4, .ref c5, .ref c6, .ref c7])), (c1, .inl (T 0, 24, .inl f1)), (c5, .inl (T 0, 24, .inl (upd f5 0 6))), (c6, .inl (T 0, 24, .inl f6)), (c7, .inl (T 0, 24, .inl f7))] := hD
  refine lv_aload_n hx hb dX2_measure_148 rfl (lv_at hl 4 rfl) ?_
  refine va_get (D := D) (ci := 1) (v := .ref c6) (C := RX2) (T := TX2) (N := 8) hx hb hts in_X2_measure_X2 hown hE.1 hP 0 rfl rfl 6 (by decide) (hts (.fieldLink RX2 31 "ClauseBook$Clauses" "made" "[I") (List.mem_of_getElem? (i := 4) rfl)) (fun _ h9 => h9) rfl dX2_measure_149 ?_
  refine lv_iload_n hx hb dX2_measure_152 rfl (lv_at hl 5 rfl) ?_
  refine lv_iload hx hb dX2_measure_153 (lv_at hl 1 rfl) ?_
  refine va_iast hx hb hE.1 hP hD hS 3 0 rfl rfl (by unfold vp_in; decide) dX2_measure_155 (fun H locs hP hD hS => ?_)
  have hP : va_P D vwCl [(h0, .inr (1, [.int n0, .ref c1, .ref c2, .ref c3, .ref c4, .ref c5, .ref c6, .ref c7])), (c1, .inl (T 0, 24, .inl f1)), (c5, .inl (T 0, 24, .inl (upd f5 0 6))), (c6, .inl (T 0, 24, .inl (upd f6 0 1))), (c7, .inl (T 0, 24, .inl f7))] H := hP
  have hD : va_D A [(h0, .inr (1, [.int n0, .ref c1, .ref c2, .ref c3, .ref c4, .ref c5, .ref c6, .ref c7])), (c1, .inl (T 0, 24, .inl f1)), (c5, .inl (T 0, 24, .inl (upd f5 0 6))), (c6, .inl (T 0, 24, .inl (upd f6 0 1))), (c7, .inl (T 0, 24, .inl f7))] := hD
  refine lv_aload_n hx hb dX2_measure_156 rfl (lv_at hl 4 rfl) ?_
  refine va_get (D := D) (ci := 1) (v := .ref c7) (C := RX2) (T := TX2) (N := 8) hx hb hts in_X2_measure_X2 hown hE.1 hP 0 rfl rfl 7 (by decide) (hts (.fieldLink RX2 34 "ClauseBook$Clauses" "deep" "[I") (List.mem_of_getElem? (i := 5) rfl)) (fun _ h9 => h9) rfl dX2_measure_157 ?_
  refine lv_iload_n hx hb dX2_measure_160 rfl (lv_at hl 5 rfl) ?_
  refine lv_iload hx hb dX2_measure_161 (lv_at hl 0 rfl) ?_
  refine lv_iconst (v := 1) hx hb dX2_measure_163 (by decide) ?_
  refine lv_iadd hx hb dX2_measure_164 ?_
  refine lv_topi (fun z_3 ez_3 => ?_)
  obtain rfl : z_3 = 1 := ez_3.trans (by decide)
  refine va_iast hx hb hE.1 hP hD hS 4 0 rfl rfl (by unfold vp_in; decide) dX2_measure_165 (fun H locs hP hD hS => ?_)
  have hP : va_P D vwCl [(h0, .inr (1, [.int n0, .ref c1, .ref c2, .ref c3, .ref c4, .ref c5, .ref c6, .ref c7])), (c1, .inl (T 0, 24, .inl f1)), (c5, .inl (T 0, 24, .inl (upd f5 0 6))), (c6, .inl (T 0, 24, .inl (upd f6 0 1))), (c7, .inl (T 0, 24, .inl (upd f7 0 1)))] H := hP
  have hD : va_D A [(h0, .inr (1, [.int n0, .ref c1, .ref c2, .ref c3, .ref c4, .ref c5, .ref c6, .ref c7])), (c1, .inl (T 0, 24, .inl f1)), (c5, .inl (T 0, 24, .inl (upd f5 0 6))), (c6, .inl (T 0, 24, .inl (upd f6 0 1))), (c7, .inl (T 0, 24, .inl (upd f7 0 1)))] := hD
  exact W.vret hx hb hr (fun t ht hW => ⟨⟨(), rfl, trivial, by rw [ht]; exact hP.sub [0] rfl, hD.sub [0] (by decide) rfl⟩, hS.F ht⟩) hS.2.2 dX2_measure_166
theorem dX2_rename_0 : decode cX2_rename 0 = .ok (.aload_n 0, 1) := by decide +kernel
theorem dX2_rename_1 : decode cX2_rename 1 = .ok (.iload_n 1, 1) := by decide +kernel
theorem dX2_rename_10 : decode cX2_rename 10 = .ok (.aload_n 0, 1) := by decide +kernel
theorem dX2_rename_11 : decode cX2_rename 11 = .ok (.getfield 22, 3) := by decide +kernel
theorem dX2_rename_14 : decode cX2_rename 14 = .ok (.iload_n 1, 1) := by decide +kernel
theorem dX2_rename_15 : decode cX2_rename 15 = .ok (.iload 4, 2) := by decide +kernel
theorem dX2_rename_17 : decode cX2_rename 17 = .ok (.iconst 1, 1) := by decide +kernel
theorem dX2_rename_18 : decode cX2_rename 18 = .ok (.if_icmp .lt 7, 3) := by decide +kernel
theorem dX2_rename_2 : decode cX2_rename 2 = .ok (.invokevirtual 51, 3) := by decide +kernel
theorem dX2_rename_25 : decode cX2_rename 25 = .ok (.iconst (-1), 1) := by decide +kernel
theorem dX2_rename_26 : decode cX2_rename 26 = .ok (.iastore, 1) := by decide +kernel
theorem dX2_rename_27 : decode cX2_rename 27 = .ok (.aload_n 0, 1) := by decide +kernel
theorem dX2_rename_28 : decode cX2_rename 28 = .ok (.getfield 25, 3) := by decide +kernel
theorem dX2_rename_31 : decode cX2_rename 31 = .ok (.iload_n 1, 1) := by decide +kernel
theorem dX2_rename_32 : decode cX2_rename 32 = .ok (.iload 4, 2) := by decide +kernel
theorem dX2_rename_34 : decode cX2_rename 34 = .ok (.iconst 2, 1) := by decide +kernel
theorem dX2_rename_35 : decode cX2_rename 35 = .ok (.if_icmp .ne 7, 3) := by decide +kernel
theorem dX2_rename_42 : decode cX2_rename 42 = .ok (.iconst (-1), 1) := by decide +kernel
theorem dX2_rename_43 : decode cX2_rename 43 = .ok (.iastore, 1) := by decide +kernel
theorem dX2_rename_44 : decode cX2_rename 44 = .ok (.iload_n 1, 1) := by decide +kernel
theorem dX2_rename_45 : decode cX2_rename 45 = .ok (.istore 5, 2) := by decide +kernel
theorem dX2_rename_47 : decode cX2_rename 47 = .ok (.iload 5, 2) := by decide +kernel
theorem dX2_rename_49 : decode cX2_rename 49 = .ok (.aload_n 0, 1) := by decide +kernel
theorem dX2_rename_5 : decode cX2_rename 5 = .ok (.getfield 55, 3) := by decide +kernel
theorem dX2_rename_50 : decode cX2_rename 50 = .ok (.getfield 9, 3) := by decide +kernel
theorem dX2_rename_53 : decode cX2_rename 53 = .ok (.if_icmp .ge 15, 3) := by decide +kernel
theorem dX2_rename_56 : decode cX2_rename 56 = .ok (.aload_n 0, 1) := by decide +kernel
theorem dX2_rename_57 : decode cX2_rename 57 = .ok (.iload 5, 2) := by decide +kernel
theorem dX2_rename_59 : decode cX2_rename 59 = .ok (.invokevirtual 58, 3) := by decide +kernel
theorem dX2_rename_62 : decode cX2_rename 62 = .ok (.iinc 5 1, 3) := by decide +kernel
theorem dX2_rename_65 : decode cX2_rename 65 = .ok (.goto (-18), 3) := by decide +kernel
theorem dX2_rename_68 : decode cX2_rename 68 = .ok (.return_, 1) := by decide +kernel
theorem dX2_rename_8 : decode cX2_rename 8 = .ok (.istore 4, 2) := by decide +kernel
set_option maxRecDepth 20000 in
theorem ggX2_rename_X2_kindOf : GoodIn wsX2_rename wsX2_kindOf := goodIn_r _ [9, 10, 27, 28, 29, 30, 31, 32, 33, 34] (by decide +kernel) (by decide +kernel)
set_option maxRecDepth 20000 in
theorem ggX2_rename_X2_measure : GoodIn wsX2_rename wsX2_measure := goodIn_r _ [14, 1, 15, 2, 16, 17, 3, 18, 19, 20, 21, 22, 23, 24, 25, 26, 5, 6, 7, 8, 9, 10, 27, 28, 29, 30, 31, 32, 33, 34] (by decide +kernel) (by decide +kernel)
set_option maxRecDepth 20000 in
theorem gX2_rename_X2_kindOf : GoodIn wsX2_rename (wsV RX2 51 RX2 yX2_kindOf wsX2_kindOf) := goodIn_app (goodIn_of _ (by decide +kernel)) ggX2_rename_X2_kindOf
set_option maxRecDepth 20000 in
theorem gX2_rename_X2_measure : GoodIn wsX2_rename (wsV RX2 58 RX2 yX2_measure wsX2_measure) := goodIn_app (goodIn_of _ (by decide +kernel)) ggX2_rename_X2_measure
set_option maxRecDepth 20000 in
theorem in_X2_rename_X2 : ∀ w ∈ wsX20, w ∈ wsX2_rename := by decide +kernel
set_option maxHeartbeats 4000000 in
set_option maxRecDepth 100000 in
theorem f_X2_rename_0 (l : Launch) (D : va_G) (T : Nat → ClassId) (ad sa av : Nat → Nat) (ta : Nat) (sz : Nat) (h0 : Nat) (c1 : Nat) (c2 : Nat) (c3 : Nat) (c4 : Nat) (c5 : Nat) (c6 : Nat) (c7 : Nat) (f1 : Nat → Int32) (f3 : Nat → Int32) (f4 : Nat → Int32) (f5 : Nat → Int32) (f6 : Nat → Int32) (f7 : Nat → Int32) (x2 : Int32) (x3 : Int32) (ek0 : f1 0 = 0) : Met l yX2_rename wsX2_rename ({ frames := 2, cells := 0, slots := 0, locals := 46 }) (pWk [.ref h0, .int 0, .int x2, .int x3] D T [(h0, .inr (1, [.int 1, .ref c1, .ref c2, .ref c3, .ref c4, .ref c5, .ref c6, .ref c7])), (c1, .inl (T 0, 24, .inl f1)), (c3, .inl (T 0, 24, .inl f3)), (c4, .inl (T 0, 24, .inl f4)), (c5, .inl (T 0, 24, .inl f5)), (c6, .inl (T 0, 24, .inl f6)), (c7, .inl (T 0, 24, .inl f7))] sz ad sa av ta) (va_Qv (fun (u : Unit) => True) (bW D (va_A [(h0, .inr (1, [.int 1, .ref c1, .ref c2, .ref c3, .ref c4, .ref c5, .ref c6, .ref c7])), (c1, .inl (T 0, 24, .inl f1)), (c3, .inl (T 0, 24, .inl f3)), (c4, .inl (T 0, 24, .inl f4)), (c5, .inl (T 0, 24, .inl f5)), (c6, .inl (T 0, 24, .inl f6)), (c7, .inl (T 0, 24, .inl f7))] sz) (fun (u : Unit) => ([] : va_W))) (va_A [(h0, .inr (1, [.int 1, .ref c1, .ref c2, .ref c3, .ref c4, .ref c5, .ref c6, .ref c7])), (c1, .inl (T 0, 24, .inl f1)), (c3, .inl (T 0, 24, .inl f3)), (c4, .inl (T 0, 24, .inl f4)), (c5, .inl (T 0, 24, .inl f5)), (c6, .inl (T 0, 24, .inl f6)), (c7, .inl (T 0, 24, .inl f7))] sz)) 0 0 (va_A [(h0, .inr (1, [.int 1, .ref c1, .ref c2, .ref c3, .ref c4, .ref c5, .ref c6, .ref c7])), (c1, .inl (T 0, 24, .inl f1)), (c3, .inl (T 0, 24, .inl f3)), (c4, .inl (T 0, 24, .inl f4)), (c5, .inl (T 0, 24, .inl f5)), (c6, .inl (T 0, 24, .inl f6)), (c7, .inl (T 0, 24, .inl f7))] sz) := by
  refine Met.ofW (cc := cX2_rename) (maxL := 6) (ret := none) (by decide) rfl ?_
  intro p e s m args below meth c s₁ B hml hv
  obtain ⟨rfl, hsz, hP, hE, hD0, hV⟩ := hv
  have hx := B.exec
  have hb := B.bytes
  have hr := B.returns
  have hts := atoms_spec (ws := wsX2_rename) B.pre
  have hown : s.vm.findClass RX2 = some m.cls := findClass_of_methodNamed B.named
  have hlocks := B.notSynchronized
  subst hsz
  have hD := hD0.self (sz := s.heap.size)
  generalize hAe : va_A [(h0, .inr (1, [.int 1, .ref c1, .ref c2, .ref c3, .ref c4, .ref c5, .ref c6, .ref c7])), (c1, .inl (T 0, 24, .inl f1)), (c3, .inl (T 0, 24, .inl f3)), (c4, .inl (T 0, 24, .inl f4)), (c5, .inl (T 0, 24, .inl f5)), (c6, .inl (T 0, 24, .inl f6)), (c7, .inl (T 0, 24, .inl f7))] s.heap.size = A at hD hV ⊢
  have hA : ∀ q : Nat, s.heap.size ≤ q → A q := fun q h => by rw [← hAe]; exact Or.inr h
  have hS : va_S A s.heap s.heap [] := va_S.rf
  have hP : va_P D vwCl [(h0, .inr (1, [.int 1, .ref c1, .ref c2, .ref c3, .ref c4, .ref c5, .ref c6, .ref c7])), (c1, .inl (T 0, 24, .inl f1)), (c3, .inl (T 0, 24, .inl f3)), (c4, .inl (T 0, 24, .inl f4)), (c5, .inl (T 0, 24, .inl f5)), (c6, .inl (T 0, 24, .inl f6)), (c7, .inl (T 0, 24, .inl f7))] s.heap := hP
  have hl := lv_entry ([.ref h0, .int 0, .int x2, .int x3]) (n := 6) (Nat.le_of_ble_eq_true rfl)
  rw [lg_entry_eq]
  generalize (lg_sl ([.ref h0, .int 0, .int x2, .int x3]) ++ List.replicate (6 - (lg_sl ([.ref h0, .int 0, .int x2, .int x3])).length) Slot.unset).toArray = ls at hl ⊢
  have hl : lv_has ls 6 [(0, .ref h0), (1, .int 0), (2, .int x2), (3, .int x3)] := hl
  clear hD0
  refine lv_aload_n hx hb dX2_rename_0 rfl (lv_at hl 0 rfl) ?_
  refine lv_iload_n hx hb dX2_rename_1 rfl (lv_at hl 1 rfl) ?_
  refine va_cse (W.runV (As := [.int 0]) (rest := []) ⟨hx, hb, hml, hown, hts⟩ (f_X2_kindOf_0 l D T ad sa av ta h0 [.int 1, .ref c1, .ref c2, .ref c3, .ref c4, .ref c5, .ref c6, .ref c7] c1 f1 rfl ek0) (cwV 1 hts gX2_rename_X2_kindOf rfl rfl rfl (by decide +kernel) ⟨Nat.le_of_ble_eq_true rfl, Nat.le_of_ble_eq_true rfl⟩) (pRk_V (ci := 1) (q0 := 0) hP hE hV hS rfl rfl [0, 1] rfl) rfl rfl hl.1 rfl (lv_room (Nat.le_of_ble_eq_true rfl)) dX2_rename_2 ⟨Nat.le_of_ble_eq_true rfl, Nat.le_of_ble_eq_true rfl⟩) (fun r_1 hr_1 => ?_)
  subst hr_1
  refine W.eq (g2 := F0 m 5 ls [.ref (ad 0)]) rfl ?_
  refine va_getE (i := 0) hx hb hV.1.1 (by decide) hS hown (q := kdQ "names" [0, 0, 1, 1, 1, 2, 2, 2, 1, 2, 1, 1, 2]) (List.mem_of_getElem? (i := 0) rfl) (hts (.fieldLink RX2 55 "ClauseBook$Kind" "names" "I") (List.mem_of_getElem? (i := 1) rfl)) (fun _ h9 => h9) dX2_rename_5 ?_
  refine W.eq (g2 := F0 m 8 ls [.int 0]) rfl ?_
  refine lv_istore (lv' := [(4, .int 0), (0, .ref h0), (1, .int 0), (2, .int x2), (3, .int x3)]) hx hb dX2_rename_8 hl (by decide) rfl (fun ls hl => ?_)
  refine lv_aload_n hx hb dX2_rename_10 rfl (lv_at hl 1 rfl) ?_
  refine va_get (D := D) (ci := 1) (v := .ref c3) (C := RX2) (T := TX2) (N := 8) hx hb hts in_X2_rename_X2 hown hE.1 hP 0 rfl rfl 3 (by decide) (hts (.fieldLink RX2 22 "ClauseBook$Clauses" "c" "[I") (List.mem_of_getElem? (i := 2) rfl)) (fun _ h9 => h9) rfl dX2_rename_11 ?_
  refine lv_iload_n hx hb dX2_rename_14 rfl (lv_at hl 2 rfl) ?_
  refine lv_iload hx hb dX2_rename_15 (lv_at hl 0 rfl) ?_
  refine lv_iconst (v := 1) hx hb dX2_rename_17 (by decide) ?_
  refine lv_icmp_lt (tgt := 25) hx hb dX2_rename_18 (by decide) (fun _ => ?_) (fun c9 => absurd c9 (by decide))
  refine lv_iconst (v := (-1)) hx hb dX2_rename_25 (by decide) ?_
  refine va_iast hx hb hE.1 hP hD hS 2 0 rfl rfl (by unfold vp_in; decide) dX2_rename_26 (fun H locs hP hD hS => ?_)
  have hP : va_P D vwCl [(h0, .inr (1, [.int 1, .ref c1, .ref c2, .ref c3, .ref c4, .ref c5, .ref c6, .ref c7])), (c1, .inl (T 0, 24, .inl f1)), (c3, .inl (T 0, 24, .inl (upd f3 0 (-1)))), (c4, .inl (T 0, 24, .inl f4)), (c5, .inl (T 0, 24, .inl f5)), (c6, .inl (T 0, 24, .inl f6)), (c7, .inl (T 0, 24, .inl f7))] H := hP
  have hD : va_D A [(h0, .inr (1, [.int 1, .ref c1, .ref c2, .ref c3, .ref c4, .ref c5, .ref c6, .ref c7])), (c1, .inl (T 0, 24, .inl f1)), (c3, .inl (T 0, 24, .inl (upd f3 0 (-1)))), (c4, .inl (T 0, 24, .inl f4)), (c5, .inl (T 0, 24, .inl f5)), (c6, .inl (T 0, 24, .inl f6)), (c7, .inl (T 0, 24, .inl f7))] := hD
  refine lv_aload_n hx hb dX2_rename_27 rfl (lv_at hl 1 rfl) ?_
  refine va_get (D := D) (ci := 1) (v := .ref c4) (C := RX2) (T := TX2) (N := 8) hx hb hts in_X2_rename_X2 hown hE.1 hP 0 rfl rfl 4 (by decide) (hts (.fieldLink RX2 25 "ClauseBook$Clauses" "d" "[I") (List.mem_of_getElem? (i := 3) rfl)) (fun _ h9 => h9) rfl dX2_rename_28 ?_
  refine lv_iload_n hx hb dX2_rename_31 rfl (lv_at hl 2 rfl) ?_
  refine lv_iload hx hb dX2_rename_32 (lv_at hl 0 rfl) ?_
  refine lv_iconst (v := 2) hx hb dX2_rename_34 (by decide) ?_
  refine lv_icmp_ne (tgt := 42) hx hb dX2_rename_35 (by decide) (fun _ => ?_) (fun c9 => absurd c9 (by decide))
  refine lv_iconst (v := (-1)) hx hb dX2_rename_42 (by decide) ?_
  refine va_iast hx hb hE.1 hP hD hS 3 0 rfl rfl (by unfold vp_in; decide) dX2_rename_43 (fun H locs hP hD hS => ?_)
  have hP : va_P D vwCl [(h0, .inr (1, [.int 1, .ref c1, .ref c2, .ref c3, .ref c4, .ref c5, .ref c6, .ref c7])), (c1, .inl (T 0, 24, .inl f1)), (c3, .inl (T 0, 24, .inl (upd f3 0 (-1)))), (c4, .inl (T 0, 24, .inl (upd f4 0 (-1)))), (c5, .inl (T 0, 24, .inl f5)), (c6, .inl (T 0, 24, .inl f6)), (c7, .inl (T 0, 24, .inl f7))] H := hP
  have hD : va_D A [(h0, .inr (1, [.int 1, .ref c1, .ref c2, .ref c3, .ref c4, .ref c5, .ref c6, .ref c7])), (c1, .inl (T 0, 24, .inl f1)), (c3, .inl (T 0, 24, .inl (upd f3 0 (-1)))), (c4, .inl (T 0, 24, .inl (upd f4 0 (-1)))), (c5, .inl (T 0, 24, .inl f5)), (c6, .inl (T 0, 24, .inl f6)), (c7, .inl (T 0, 24, .inl f7))] := hD
  refine lv_iload_n hx hb dX2_rename_44 rfl (lv_at hl 2 rfl) ?_
  refine lv_istore (lv' := [(5, .int 0), (4, .int 0), (0, .ref h0), (1, .int 0), (2, .int x2), (3, .int x3)]) hx hb dX2_rename_45 hl (by decide) rfl (fun ls hl => ?_)
  refine lv_iload hx hb dX2_rename_47 (lv_at hl 0 rfl) ?_
  refine lv_aload_n hx hb dX2_rename_49 rfl (lv_at hl 2 rfl) ?_
  refine va_get (D := D) (ci := 1) (v := .int 1) (C := RX2) (T := TX2) (N := 8) hx hb hts in_X2_rename_X2 hown hE.1 hP 0 rfl rfl 0 (by decide) (hts (.fieldLink RX2 9 "ClauseBook$Clauses" "size" "I") (List.mem_of_getElem? (i := 4) rfl)) (fun _ h9 => h9) rfl dX2_rename_50 ?_
  refine lv_icmp_ge (tgt := 68) hx hb dX2_rename_53 (by decide) (fun c9 => absurd c9 (by decide)) (fun _ => ?_)
  refine lv_aload_n hx hb dX2_rename_56 rfl (lv_at hl 2 rfl) ?_
  refine lv_iload hx hb dX2_rename_57 (lv_at hl 0 rfl) ?_
  have hFc := va_free (wc := [(h0, .inr (1, [.int 1, .ref c1, .ref c2, .ref c3, .ref c4, .ref c5, .ref c6, .ref c7])), (c1, .inl (T 0, 24, .inl f1)), (c5, .inl (T 0, 24, .inl f5)), (c6, .inl (T 0, 24, .inl f6)), (c7, .inl (T 0, 24, .inl f7))]) hD hS hA [0, 1, 4, 5, 6] rfl
  refine va_callv (va_runV (As := [.int 0]) (rest := []) ⟨hx, hb, hml, hown, hts⟩ (f_X2_measure_0 l D T ad sa av ta _ h0 1 c1 c2 c3 c4 c5 c6 c7 f1 f5 f6 f7 ek0) (cwV 1 hts gX2_rename_X2_measure rfl rfl rfl (by decide +kernel) ⟨Nat.le_of_ble_eq_true rfl, Nat.le_of_ble_eq_true rfl⟩) (pWk_V (ci := 1) (q0 := 0) hP hE hD hV hS hFc rfl rfl [0, 1, 4, 5, 6] (by decide) rfl rfl) rfl rfl hl.1 rfl (lv_room (Nat.le_of_ble_eq_true rfl)) dX2_rename_59 ⟨Nat.le_of_ble_eq_true rfl, Nat.le_of_ble_eq_true rfl⟩) hS (fun q _ h => hFc q h) hFc (fun u_3 t H1 locs ht hvm hr_2 hB hz1 hk1 hS => ?_)
  obtain ⟨hP1, hD1⟩ := hB
  rw [ht] at hP1
  obtain ⟨hP, hD⟩ := va_join (wr := [(c3, .inl (T 0, 24, .inl (upd f3 0 (-1)))), (c4, .inl (T 0, 24, .inl (upd f4 0 (-1))))]) (w1 := [(h0, .inr (1, [.int 1, .ref c1, .ref c2, .ref c3, .ref c4, .ref c5, .ref c6, .ref c7]))]) hP hD [0, 1, 4, 5, 6] [2, 3] rfl rfl (by decide) (by decide) hk1 hFc hP1 hD1
  clear hP1 hD1 hFc
  generalize H1 = H at hP hS ⊢
  have hP : va_P D vwCl [(c3, .inl (T 0, 24, .inl (upd f3 0 (-1)))), (c4, .inl (T 0, 24, .inl (upd f4 0 (-1)))), (h0, .inr (1, [.int 1, .ref c1, .ref c2, .ref c3, .ref c4, .ref c5, .ref c6, .ref c7]))] H := hP
  have hD : va_D A [(c3, .inl (T 0, 24, .inl (upd f3 0 (-1)))), (c4, .inl (T 0, 24, .inl (upd f4 0 (-1)))), (h0, .inr (1, [.int 1, .ref c1, .ref c2, .ref c3, .ref c4, .ref c5, .ref c6, .ref c7]))] := hD
  refine lv_iinc (v := 1) (lv' := [(5, .int 1), (4, .int 0), (0, .ref h0), (1, .int 0), (2, .int x2), (3, .int x3)]) hx hb dX2_rename_62 hl (k := 0) rfl (by decide) (by decide) rfl (fun ls hl => ?_)
  refine lv_goto (tgt := 47) hx hb dX2_rename_65 (by decide) ?_
  refine lv_iload hx hb dX2_rename_47 (lv_at hl 0 rfl) ?_
  refine lv_aload_n hx hb dX2_rename_49 rfl (lv_at hl 2 rfl) ?_
  refine va_get (D := D) (ci := 1) (v := .int 1) (C := RX2) (T := TX2) (N := 8) hx hb hts in_X2_rename_X2 hown hE.1 hP 2 rfl rfl 0 (by decide) (hts (.fieldLink RX2 9 "ClauseBook$Clauses" "size" "I") (List.mem_of_getElem? (i := 4) rfl)) (fun _ h9 => h9) rfl dX2_rename_50 ?_
  refine lv_icmp_ge (tgt := 68) hx hb dX2_rename_53 (by decide) (fun _ => ?_) (fun c9 => absurd c9 (by decide))
  exact W.vret hx hb hr (fun t ht hW => ⟨⟨(), rfl, trivial, by rw [ht]; exact hP.sub [] rfl, hD.sub [] (by decide) rfl⟩, hS.F ht⟩) hS.2.2 dX2_rename_68
theorem dX2_append_0 : decode cX2_append 0 = .ok (.aload_n 0, 1) := by decide +kernel
theorem dX2_append_1 : decode cX2_append 1 = .ok (.getfield 9, 3) := by decide +kernel
theorem dX2_append_12 : decode cX2_append 12 = .ok (.aload_n 0, 1) := by decide +kernel
theorem dX2_append_13 : decode cX2_append 13 = .ok (.getfield 9, 3) := by decide +kernel
theorem dX2_append_16 : decode cX2_append 16 = .ok (.istore 5, 2) := by decide +kernel
theorem dX2_append_18 : decode cX2_append 18 = .ok (.aload_n 0, 1) := by decide +kernel
theorem dX2_append_19 : decode cX2_append 19 = .ok (.dup, 1) := by decide +kernel
theorem dX2_append_20 : decode cX2_append 20 = .ok (.getfield 9, 3) := by decide +kernel
theorem dX2_append_23 : decode cX2_append 23 = .ok (.iconst 1, 1) := by decide +kernel
theorem dX2_append_24 : decode cX2_append 24 = .ok (.iadd, 1) := by decide +kernel
theorem dX2_append_25 : decode cX2_append 25 = .ok (.putfield 9, 3) := by decide +kernel
theorem dX2_append_28 : decode cX2_append 28 = .ok (.aload_n 0, 1) := by decide +kernel
theorem dX2_append_29 : decode cX2_append 29 = .ok (.getfield 15, 3) := by decide +kernel
theorem dX2_append_32 : decode cX2_append 32 = .ok (.iload 5, 2) := by decide +kernel
theorem dX2_append_34 : decode cX2_append 34 = .ok (.iload_n 1, 1) := by decide +kernel
theorem dX2_append_35 : decode cX2_append 35 = .ok (.iastore, 1) := by decide +kernel
theorem dX2_append_36 : decode cX2_append 36 = .ok (.aload_n 0, 1) := by decide +kernel
theorem dX2_append_37 : decode cX2_append 37 = .ok (.getfield 19, 3) := by decide +kernel
theorem dX2_append_4 : decode cX2_append 4 = .ok (.bipush 24, 2) := by decide +kernel
theorem dX2_append_40 : decode cX2_append 40 = .ok (.iload 5, 2) := by decide +kernel
theorem dX2_append_42 : decode cX2_append 42 = .ok (.iload_n 2, 1) := by decide +kernel
theorem dX2_append_43 : decode cX2_append 43 = .ok (.iastore, 1) := by decide +kernel
theorem dX2_append_44 : decode cX2_append 44 = .ok (.aload_n 0, 1) := by decide +kernel
theorem dX2_append_45 : decode cX2_append 45 = .ok (.iload 5, 2) := by decide +kernel
theorem dX2_append_47 : decode cX2_append 47 = .ok (.iload_n 3, 1) := by decide +kernel
theorem dX2_append_48 : decode cX2_append 48 = .ok (.iload 4, 2) := by decide +kernel
theorem dX2_append_50 : decode cX2_append 50 = .ok (.invokevirtual 47, 3) := by decide +kernel
theorem dX2_append_53 : decode cX2_append 53 = .ok (.iload 5, 2) := by decide +kernel
theorem dX2_append_55 : decode cX2_append 55 = .ok (.ireturn, 1) := by decide +kernel
theorem dX2_append_6 : decode cX2_append 6 = .ok (.if_icmp .lt 6, 3) := by decide +kernel
set_option maxRecDepth 20000 in
theorem ggX2_append_X2_rename : GoodIn wsX2_append wsX2_rename := goodIn_r _ [8, 9, 10, 11, 1, 12, 13, 14, 7, 15, 2, 16, 17, 18, 19, 20, 21, 22, 23, 24, 25, 26, 27, 3, 28, 29, 30, 31, 32, 33, 34, 35, 36, 37, 38] (by decide +kernel) (by decide +kernel)
set_option maxRecDepth 20000 in
theorem gX2_append_X2_rename : GoodIn wsX2_append (wsV RX2 47 RX2 yX2_rename wsX2_rename) := goodIn_app (goodIn_of _ (by decide +kernel)) ggX2_append_X2_rename
set_option maxRecDepth 20000 in
theorem in_X2_append_X2 : ∀ w ∈ wsX20, w ∈ wsX2_append := by decide +kernel
set_option maxHeartbeats 4000000 in
set_option maxRecDepth 100000 in
theorem f_X2_append_0 (l : Launch) (D : va_G) (T : Nat → ClassId) (ad sa av : Nat → Nat) (ta : Nat) (sz : Nat) (h0 : Nat) (c1 : Nat) (c2 : Nat) (c3 : Nat) (c4 : Nat) (c5 : Nat) (c6 : Nat) (c7 : Nat) (f1 : Nat → Int32) (f2 : Nat → Int32) (f3 : Nat → Int32) (f4 : Nat → Int32) (f5 : Nat → Int32) (f6 : Nat → Int32) (f7 : Nat → Int32) (x2 : Int32) (x3 : Int32) (x4 : Int32)  : Met l yX2_append wsX2_append ({ frames := 3, cells := 0, slots := 0, locals := 71 }) (pWk [.ref h0, .int 0, .int x2, .int x3, .int x4] D T [(h0, .inr (1, [.int 0, .ref c1, .ref c2, .ref c3, .ref c4, .ref c5, .ref c6, .ref c7])), (c1, .inl (T 0, 24, .inl f1)), (c2, .inl (T 0, 24, .inl f2)), (c3, .inl (T 0, 24, .inl f3)), (c4, .inl (T 0, 24, .inl f4)), (c5, .inl (T 0, 24, .inl f5)), (c6, .inl (T 0, 24, .inl f6)), (c7, .inl (T 0, 24, .inl f7))] sz ad sa av ta) (va_Qi (fun (r : Int32) (u : Unit) => r = 0) (bW D (va_A [(h0, .inr (1, [.int 0, .ref c1, .ref c2, .ref c3, .ref c4, .ref c5, .ref c6, .ref c7])), (c1, .inl (T 0, 24, .inl f1)), (c2, .inl (T 0, 24, .inl f2)), (c3, .inl (T 0, 24, .inl f3)), (c4, .inl (T 0, 24, .inl f4)), (c5, .inl (T 0, 24, .inl f5)), (c6, .inl (T 0, 24, .inl f6)), (c7, .inl (T 0, 24, .inl f7))] sz) (fun (u : Unit) => ([] : va_W))) (va_A [(h0, .inr (1, [.int 0, .ref c1, .ref c2, .ref c3, .ref c4, .ref c5, .ref c6, .ref c7])), (c1, .inl (T 0, 24, .inl f1)), (c2, .inl (T 0, 24, .inl f2)), (c3, .inl (T 0, 24, .inl f3)), (c4, .inl (T 0, 24, .inl f4)), (c5, .inl (T 0, 24, .inl f5)), (c6, .inl (T 0, 24, .inl f6)), (c7, .inl (T 0, 24, .inl f7))] sz)) 0 0 (va_A [(h0, .inr (1, [.int 0, .ref c1, .ref c2, .ref c3, .ref c4, .ref c5, .ref c6, .ref c7])), (c1, .inl (T 0, 24, .inl f1)), (c2, .inl (T 0, 24, .inl f2)), (c3, .inl (T 0, 24, .inl f3)), (c4, .inl (T 0, 24, .inl f4)), (c5, .inl (T 0, 24, .inl f5)), (c6, .inl (T 0, 24, .inl f6)), (c7, .inl (T 0, 24, .inl f7))] sz) := by
  refine Met.ofW (cc := cX2_append) (maxL := 6) (ret := (some .int)) (by decide) rfl ?_
  intro p e s m args below meth c s₁ B hml hv
  obtain ⟨rfl, hsz, hP, hE, hD0, hV⟩ := hv
  have hx := B.exec
  have hb := B.bytes
  have hr := B.returns
  have hts := atoms_spec (ws := wsX2_append) B.pre
  have hown : s.vm.findClass RX2 = some m.cls := findClass_of_methodNamed B.named
  have hlocks := B.notSynchronized
  subst hsz
  have hD := hD0.self (sz := s.heap.size)
  generalize hAe : va_A [(h0, .inr (1, [.int 0, .ref c1, .ref c2, .ref c3, .ref c4, .ref c5, .ref c6, .ref c7])), (c1, .inl (T 0, 24, .inl f1)), (c2, .inl (T 0, 24, .inl f2)), (c3, .inl (T 0, 24, .inl f3)), (c4, .inl (T 0, 24, .inl f4)), (c5, .inl (T 0, 24, .inl f5)), (c6, .inl (T 0, 24, .inl f6)), (c7, .inl (T 0, 24, .inl f7))] s.heap.size = A at hD hV ⊢
  have hA : ∀ q : Nat, s.heap.size ≤ q → A q := fun q h => by rw [← hAe]; exact Or.inr h
  have hS : va_S A s.heap s.heap [] := va_S.rf
  have hP : va_P D vwCl [(h0, .inr (1, [.int 0, .ref c1, .ref c2, .ref c3, .ref c4, .ref c5, .ref c6, .ref c7])), (c1, .inl (T 0, 24, .inl f1)), (c2, .inl (T 0, 24, .inl f2)), (c3, .inl (T 0, 24, .inl f3)), (c4, .inl (T 0, 24, .inl f4)), (c5, .inl (T 0, 24, .inl f5)), (c6, .inl (T 0, 24, .inl f6)), (c7, .inl (T 0, 24, .inl f7))] s.heap := hP
  have hl := lv_entry ([.ref h0, .int 0, .int x2, .int x3, .int x4]) (n := 6) (Nat.le_of_ble_eq_true rfl)
  rw [lg_entry_eq]
  generalize (lg_sl ([.ref h0, .int 0, .int x2, .int x3, .int x4]) ++ List.replicate (6 - (lg_sl ([.ref h0, .int 0, .int x2, .int x3, .int x4])).length) Slot.unset).toArray = ls at hl ⊢
  have hl : lv_has ls 6 [(0, .ref h0), (1, .int 0), (2, .int x2), (3, .int x3), (4, .int x4)] := hl
  clear hD0
  refine lv_aload_n hx hb dX2_append_0 rfl (lv_at hl 0 rfl) ?_
  refine va_get (D := D) (ci := 1) (v := .int 0) (C := RX2) (T := TX2) (N := 8) hx hb hts in_X2_append_X2 hown hE.1 hP 0 rfl rfl 0 (by decide) (hts (.fieldLink RX2 9 "ClauseBook$Clauses" "size" "I") (List.mem_of_getElem? (i := 1) rfl)) (fun _ h9 => h9) rfl dX2_append_1 ?_
  refine lv_bipush (v := 24) hx hb dX2_append_4 (by decide) ?_
  refine lv_icmp_lt (tgt := 12) hx hb dX2_append_6 (by decide) (fun _ => ?_) (fun c9 => absurd c9 (by decide))
  refine lv_aload_n hx hb dX2_append_12 rfl (lv_at hl 0 rfl) ?_
  refine va_get (D := D) (ci := 1) (v := .int 0) (C := RX2) (T := TX2) (N := 8) hx hb hts in_X2_append_X2 hown hE.1 hP 0 rfl rfl 0 (by decide) (hts (.fieldLink RX2 9 "ClauseBook$Clauses" "size" "I") (List.mem_of_getElem? (i := 1) rfl)) (fun _ h9 => h9) rfl dX2_append_13 ?_
  refine lv_istore (lv' := [(5, .int 0), (0, .ref h0), (1, .int 0), (2, .int x2), (3, .int x3), (4, .int x4)]) hx hb dX2_append_16 hl (by decide) rfl (fun ls hl => ?_)
  refine lv_aload_n hx hb dX2_append_18 rfl (lv_at hl 1 rfl) ?_
  refine lv_dup hx hb dX2_append_19 rfl ?_
  refine va_get (D := D) (ci := 1) (v := .int 0) (C := RX2) (T := TX2) (N := 8) hx hb hts in_X2_append_X2 hown hE.1 hP 0 rfl rfl 0 (by decide) (hts (.fieldLink RX2 9 "ClauseBook$Clauses" "size" "I") (List.mem_of_getElem? (i := 1) rfl)) (fun _ h9 => h9) rfl dX2_append_20 ?_
  refine lv_iconst (v := 1) hx hb dX2_append_23 (by decide) ?_
  refine lv_iadd hx hb dX2_append_24 ?_
  refine lv_topi (fun z_1 ez_1 => ?_)
  obtain rfl : z_1 = 1 := ez_1.trans (by decide)
  refine va_put (D := D) (ci := 1) (v := .int 1) (ty := .int) (C := RX2) (T := TX2) (N := 8) hx hb hts in_X2_append_X2 tyX2 tyX2_ok nmX2 hown hE.1 hP hD hS 0 rfl rfl 0 (by decide) (hts (.fieldLink RX2 9 "ClauseBook$Clauses" "size" "I") (List.mem_of_getElem? (i := 1) rfl)) (fun _ h9 => h9) rfl (by decide +kernel) rfl rfl (Nat.le_of_ble_eq_true rfl) dX2_append_25 (fun H locs hP hD hS => ?_)
  have hP : va_P D vwCl [(h0, .inr (1, [.int 1, .ref c1, .ref c2, .ref c3, .ref c4, .ref c5, .ref c6, .ref c7])), (c1, .inl (T 0, 24, .inl f1)), (c2, .inl (T 0, 24, .inl f2)), (c3, .inl (T 0, 24, .inl f3)), (c4, .inl (T 0, 24, .inl f4)), (c5, .inl (T 0, 24, .inl f5)), (c6, .inl (T 0, 24, .inl f6)), (c7, .inl (T 0, 24, .inl f7))] H := hP
  have hD : va_D A [(h0, .inr (1, [.int 1, .ref c1, .ref c2, .ref c3, .ref c4, .ref c5, .ref c6, .ref c7])), (c1, .inl (T 0, 24, .inl f1)), (c2, .inl (T 0, 24, .inl f2)), (c3, .inl (T 0, 24, .inl f3)), (c4, .inl (T 0, 24, .inl f4)), (c5, .inl (T 0, 24, .inl f5)), (c6, .inl (T 0, 24, .inl f6)), (c7, .inl (T 0, 24, .inl f7))] := hD
  refine lv_aload_n hx hb dX2_append_28 rfl (lv_at hl 1 rfl) ?_
  refine va_get (D := D) (ci := 1) (v := .ref c1) (C := RX2) (T := TX2) (N := 8) hx hb hts in_X2_append_X2 hown hE.1 hP 0 rfl rfl 1 (by decide) (hts (.fieldLink RX2 15 "ClauseBook$Clauses" "kind" "[I") (List.mem_of_getElem? (i := 2) rfl)) (fun _ h9 => h9) rfl dX2_append_29 ?_
  refine lv_iload hx hb dX2_append_32 (lv_at hl 0 rfl) ?_
  refine lv_iload_n hx hb dX2_append_34 rfl (lv_at hl 2 rfl) ?_
  refine va_iast hx hb hE.1 hP hD hS 1 0 rfl rfl (by unfold vp_in; decide) dX2_append_35 (fun H locs hP hD hS => ?_)
  have hP : va_P D vwCl [(h0, .inr (1, [.int 1, .ref c1, .ref c2, .ref c3, .ref c4, .ref c5, .ref c6, .ref c7])), (c1, .inl (T 0, 24, .inl (upd f1 0 0))), (c2, .inl (T 0, 24, .inl f2)), (c3, .inl (T 0, 24, .inl f3)), (c4, .inl (T 0, 24, .inl f4)), (c5, .inl (T 0, 24, .inl f5)), (c6, .inl (T 0, 24, .inl f6)), (c7, .inl (T 0, 24, .inl f7))] H := hP
  have hD : va_D A [(h0, .inr (1, [.int 1, .ref c1, .ref c2, .ref c3, .ref c4, .ref c5, .ref c6, .ref c7])), (c1, .inl (T 0, 24, .inl (upd f1 0 0))), (c2, .inl (T 0, 24, .inl f2)), (c3, .inl (T 0, 24, .inl f3)), (c4, .inl (T 0, 24, .inl f4)), (c5, .inl (T 0, 24, .inl f5)), (c6, .inl (T 0, 24, .inl f6)), (c7, .inl (T 0, 24, .inl f7))] := hD
  refine lv_aload_n hx hb dX2_append_36 rfl (lv_at hl 1 rfl) ?_
  refine va_get (D := D) (ci := 1) (v := .ref c2) (C := RX2) (T := TX2) (N := 8) hx hb hts in_X2_append_X2 hown hE.1 hP 0 rfl rfl 2 (by decide) (hts (.fieldLink RX2 19 "ClauseBook$Clauses" "n" "[I") (List.mem_of_getElem? (i := 3) rfl)) (fun _ h9 => h9) rfl dX2_append_37 ?_
  refine lv_iload hx hb dX2_append_40 (lv_at hl 0 rfl) ?_
  refine lv_iload_n hx hb dX2_append_42 rfl (lv_at hl 3 rfl) ?_
  refine va_iast hx hb hE.1 hP hD hS 2 0 rfl rfl (by unfold vp_in; decide) dX2_append_43 (fun H locs hP hD hS => ?_)
  have hP : va_P D vwCl [(h0, .inr (1, [.int 1, .ref c1, .ref c2, .ref c3, .ref c4, .ref c5, .ref c6, .ref c7])), (c1, .inl (T 0, 24, .inl (upd f1 0 0))), (c2, .inl (T 0, 24, .inl (upd f2 0 x2))), (c3, .inl (T 0, 24, .inl f3)), (c4, .inl (T 0, 24, .inl f4)), (c5, .inl (T 0, 24, .inl f5)), (c6, .inl (T 0, 24, .inl f6)), (c7, .inl (T 0, 24, .inl f7))] H := hP
  have hD : va_D A [(h0, .inr (1, [.int 1, .ref c1, .ref c2, .ref c3, .ref c4, .ref c5, .ref c6, .ref c7])), (c1, .inl (T 0, 24, .inl (upd f1 0 0))), (c2, .inl (T 0, 24, .inl (upd f2 0 x2))), (c3, .inl (T 0, 24, .inl f3)), (c4, .inl (T 0, 24, .inl f4)), (c5, .inl (T 0, 24, .inl f5)), (c6, .inl (T 0, 24, .inl f6)), (c7, .inl (T 0, 24, .inl f7))] := hD
  refine lv_aload_n hx hb dX2_append_44 rfl (lv_at hl 1 rfl) ?_
  refine lv_iload hx hb dX2_append_45 (lv_at hl 0 rfl) ?_
  refine lv_iload_n hx hb dX2_append_47 rfl (lv_at hl 4 rfl) ?_
  refine lv_iload hx hb dX2_append_48 (lv_at hl 5 rfl) ?_
  have hFc := va_free (wc := [(h0, .inr (1, [.int 1, .ref c1, .ref c2, .ref c3, .ref c4, .ref c5, .ref c6, .ref c7])), (c1, .inl (T 0, 24, .inl (upd f1 0 0))), (c3, .inl (T 0, 24, .inl f3)), (c4, .inl (T 0, 24, .inl f4)), (c5, .inl (T 0, 24, .inl f5)), (c6, .inl (T 0, 24, .inl f6)), (c7, .inl (T 0, 24, .inl f7))]) hD hS hA [0, 1, 3, 4, 5, 6, 7] rfl
  refine va_callv (va_runV (As := [.int 0, .int x3, .int x4]) (rest := []) ⟨hx, hb, hml, hown, hts⟩ (f_X2_rename_0 l D T ad sa av ta _ h0 c1 c2 c3 c4 c5 c6 c7 (upd f1 0 0) f3 f4 f5 f6 f7 x3 x4 (by first | rfl | simp [upd, vp_updL, va_up])) (cwV 3 hts gX2_append_X2_rename rfl rfl rfl (by decide +kernel) ⟨Nat.le_of_ble_eq_true rfl, Nat.le_of_ble_eq_true rfl⟩) (pWk_V (ci := 1) (q0 := 0) hP hE hD hV hS hFc rfl rfl [0, 1, 3, 4, 5, 6, 7] (by decide) rfl rfl) rfl rfl hl.1 rfl (lv_room (Nat.le_of_ble_eq_true rfl)) dX2_append_50 ⟨Nat.le_of_ble_eq_true rfl, Nat.le_of_ble_eq_true rfl⟩) hS (fun q _ h => hFc q h) hFc (fun u_3 t H1 locs ht hvm hr_2 hB hz1 hk1 hS => ?_)
  obtain ⟨hP1, hD1⟩ := hB
  rw [ht] at hP1
  obtain ⟨hP, hD⟩ := va_join (wr := [(c2, .inl (T 0, 24, .inl (upd f2 0 x2)))]) (w1 := []) hP hD [0, 1, 3, 4, 5, 6, 7] [2] rfl rfl (by decide) (by decide) hk1 hFc hP1 hD1
  clear hP1 hD1 hFc
  generalize H1 = H at hP hS ⊢
  have hP : va_P D vwCl [(c2, .inl (T 0, 24, .inl (upd f2 0 x2)))] H := hP
  have hD : va_D A [(c2, .inl (T 0, 24, .inl (upd f2 0 x2)))] := hD
  refine lv_iload hx hb dX2_append_53 (lv_at hl 0 rfl) ?_
  exact W.iret hx hb hr (fun t ht hW => ⟨⟨_, (), rfl, rfl, by rw [ht]; exact hP.sub [] rfl, hD.sub [] (by decide) rfl⟩, hS.F ht⟩) hS.2.2 dX2_append_55
set_option maxHeartbeats 4000000 in
set_option maxRecDepth 100000 in
theorem f_X2_kindOf_1 (l : Launch) (D : va_G) (T : Nat → ClassId) (ad sa av : Nat → Nat) (ta : Nat) (h0 : Nat) (fs0 : List Value) (c1 : Nat) (f1 : Nat → Int32) (e0_1 : fs0[1]? = some (.ref c1)) (ek0 : f1 0 = 1) : Met l yX2_kindOf wsX2_kindOf ({ frames := 0, cells := 0, slots := 0, locals := 0 }) (pRk [.ref h0, .int 0] D T [(h0, .inr (1, fs0)), (c1, .inl (T 0, 24, .inl f1))] ad sa av ta) (va_Se ad (fun r => r = some 1)) 0 0 (fun _ => False) := by
  refine Met.ofW (cc := cX2_kindOf) (maxL := 2) (ret := (some (.object "ClauseBook$Kind"))) (by decide) rfl ?_
  intro p e s m args below meth c s₁ B hml hv
  obtain ⟨rfl, hP, hE, hV⟩ := hv
  have hS : va_S (fun _ => False) s.heap s.heap [] := va_S.rf
  have hx := B.exec
  have hb := B.bytes
  have hr := B.returns
  have hts := atoms_spec (ws := wsX2_kindOf) B.pre
  have hown : s.vm.findClass RX2 = some m.cls := findClass_of_methodNamed B.named
  have hlocks := B.notSynchronized
  have hP : va_P D vwCl [(h0, .inr (1, fs0)), (c1, .inl (T 0, 24, .inl f1))] s.heap := hP
  have hl := lv_entry ([.ref h0, .int 0]) (n := 2) (Nat.le_of_ble_eq_true rfl)
  rw [lg_entry_eq]
  generalize (lg_sl ([.ref h0, .int 0]) ++ List.replicate (2 - (lg_sl ([.ref h0, .int 0])).length) Slot.unset).toArray = ls at hl ⊢
  have hl : lv_has ls 2 [(0, .ref h0), (1, .int 0)] := hl
  refine va_getsN (v := .ref ta) hx hb hV.1.2.1 hS hown (va_Nw.use rfl (hE.2.2.1 _ (List.mem_of_getElem? (i := 1) rfl))) (fun _ h9 => h9) dX2_kindOf_0 ?_
  refine lv_aload_n hx hb dX2_kindOf_3 rfl (lv_at hl 0 rfl) ?_
  refine va_get (D := D) (ci := 1) (v := .ref c1) (C := RX2) (T := TX2) (N := 8) hx hb hts in_X2_kindOf_X2 hown hE.1 hP 0 rfl rfl 1 (by decide) (hts (.fieldLink RX2 15 "ClauseBook$Clauses" "kind" "[I") (List.mem_of_getElem? (i := 1) rfl)) (fun _ h9 => h9) e0_1 dX2_kindOf_4 ?_
  refine lv_iload_n hx hb dX2_kindOf_7 rfl (lv_at hl 1 rfl) ?_
  refine va_iald hx hb hE.1 hP 1 0 rfl rfl (by unfold vp_in; decide) dX2_kindOf_8 ?_
  refine lv_topi (fun z_1 ez_1 => ?_)
  obtain rfl : z_1 = 1 := ez_1.trans ek0
  refine vb_tq (v := .ref (ad 1)) hx hb hV.1.2.2 hS (by unfold vp_in; decide) rfl dX2_kindOf_9 ?_
  exact W.aret (v := .ref (ad 1)) hx hb hr (Or.inl ⟨_, rfl⟩) (Or.inr ⟨_, rfl⟩) (fun t ht hW => ⟨some 1, rfl, rfl, ht⟩) (fun _ h => by cases h) dX2_kindOf_10
set_option maxHeartbeats 4000000 in
set_option maxRecDepth 100000 in
theorem f_X2_measure_1 (l : Launch) (D : va_G) (T : Nat → ClassId) (ad sa av : Nat → Nat) (ta : Nat) (sz : Nat) (h0 : Nat) (n0 : Int32) (c1 : Nat) (c2 : Nat) (c3 : Nat) (c4 : Nat) (c5 : Nat) (c6 : Nat) (c7 : Nat) (f1 : Nat → Int32) (f5 : Nat → Int32) (f6 : Nat → Int32) (f7 : Nat → Int32) (ek0 : f1 0 = 1) : Met l yX2_measure wsX2_measure ({ frames := 1, cells := 0, slots := 0, locals := 21 }) (pWk [.ref h0, .int 0] D T [(h0, .inr (1, [.int n0, .ref c1, .ref c2, .ref c3, .ref c4, .ref c5, .ref c6, .ref c7])), (c1, .inl (T 0, 24, .inl f1)), (c5, .inl (T 0, 24, .inl f5)), (c6, .inl (T 0, 24, .inl f6)), (c7, .inl (T 0, 24, .inl f7))] sz ad sa av ta) (va_Qv (fun (u : Unit) => True) (bW D (va_A [(h0, .inr (1, [.int n0, .ref c1, .ref c2, .ref c3, .ref c4, .ref c5, .ref c6, .ref c7])), (c1, .inl (T 0, 24, .inl f1)), (c5, .inl (T 0, 24, .inl f5)), (c6, .inl (T 0, 24, .inl f6)), (c7, .inl (T 0, 24, .inl f7))] sz) (fun (u : Unit) => [(h0, .inr (1, [.int n0, .ref c1, .ref c2, .ref c3, .ref c4, .ref c5, .ref c6, .ref c7]))])) (va_A [(h0, .inr (1, [.int n0, .ref c1, .ref c2, .ref c3, .ref c4, .ref c5, .ref c6, .ref c7])), (c1, .inl (T 0, 24, .inl f1)), (c5, .inl (T 0, 24, .inl f5)), (c6, .inl (T 0, 24, .inl f6)), (c7, .inl (T 0, 24, .inl f7))] sz)) 0 0 (va_A [(h0, .inr (1, [.int n0, .ref c1, .ref c2, .ref c3, .ref c4, .ref c5, .ref c6, .ref c7])), (c1, .inl (T 0, 24, .inl f1)), (c5, .inl (T 0, 24, .inl f5)), (c6, .inl (T 0, 24, .inl f6)), (c7, .inl (T 0, 24, .inl f7))] sz) := by
  refine Met.ofW (cc := cX2_measure) (maxL := 6) (ret := none) (by decide) rfl ?_
  intro p e s m args below meth c s₁ B hml hv
  obtain ⟨rfl, hsz, hP, hE, hD0, hV⟩ := hv
  have hx := B.exec
  have hb := B.bytes
  have hr := B.returns
  have hts := atoms_spec (ws := wsX2_measure) B.pre
  have hown : s.vm.findClass RX2 = some m.cls := findClass_of_methodNamed B.named
  have hlocks := B.notSynchronized
  subst hsz
  have hD := hD0.self (sz := s.heap.size)
  generalize hAe : va_A [(h0, .inr (1, [.int n0, .ref c1, .ref c2, .ref c3, .ref c4, .ref c5, .ref c6, .ref c7])), (c1, .inl (T 0, 24, .inl f1)), (c5, .inl (T 0, 24, .inl f5)), (c6, .inl (T 0, 24, .inl f6)), (c7, .inl (T 0, 24, .inl f7))] s.heap.size = A at hD hV ⊢
  have hA : ∀ q : Nat, s.heap.size ≤ q → A q := fun q h => by rw [← hAe]; exact Or.inr h
  have hS : va_S A s.heap s.heap [] := va_S.rf
  have hP : va_P D vwCl [(h0, .inr (1, [.int n0, .ref c1, .ref c2, .ref c3, .ref c4, .ref c5, .ref c6, .ref c7])), (c1, .inl (T 0, 24, .inl f1)), (c5, .inl (T 0, 24, .inl f5)), (c6, .inl (T 0, 24, .inl f6)), (c7, .inl (T 0, 24, .inl f7))] s.heap := hP
  have hl := lv_entry ([.ref h0, .int 0]) (n := 6) (Nat.le_of_ble_eq_true rfl)
  rw [lg_entry_eq]
  generalize (lg_sl ([.ref h0, .int 0]) ++ List.replicate (6 - (lg_sl ([.ref h0, .int 0])).length) Slot.unset).toArray = ls at hl ⊢
  have hl : lv_has ls 6 [(0, .ref h0), (1, .int 0)] := hl
  clear hD0
  refine lv_aload_n hx hb dX2_measure_0 rfl (lv_at hl 0 rfl) ?_
  refine lv_iload_n hx hb dX2_measure_1 rfl (lv_at hl 1 rfl) ?_
  refine va_cse (W.runV (As := [.int 0]) (rest := []) ⟨hx, hb, hml, hown, hts⟩ (f_X2_kindOf_1 l D T ad sa av ta h0 [.int n0, .ref c1, .ref c2, .ref c3, .ref c4, .ref c5, .ref c6, .ref c7] c1 f1 rfl ek0) (cwV 1 hts gX2_measure_X2_kindOf rfl rfl rfl (by decide +kernel) ⟨Nat.le_of_ble_eq_true rfl, Nat.le_of_ble_eq_true rfl⟩) (pRk_V (ci := 1) (q0 := 0) hP hE hV hS rfl rfl [0, 1] rfl) rfl rfl hl.1 rfl (lv_room (Nat.le_of_ble_eq_true rfl)) dX2_measure_2 ⟨Nat.le_of_ble_eq_true rfl, Nat.le_of_ble_eq_true rfl⟩) (fun r_1 hr_1 => ?_)
  subst hr_1
  refine W.eq (g2 := F0 m 5 ls [.ref (ad 1)]) rfl ?_
  refine va_getE (i := 1) hx hb hV.1.1 (by decide) hS hown (q := kdQ "names" [0, 0, 1, 1, 1, 2, 2, 2, 1, 2, 1, 1, 2]) (List.mem_of_getElem? (i := 0) rfl) (hts (.fieldLink RX2 55 "ClauseBook$Kind" "names" "I") (List.mem_of_getElem? (i := 1) rfl)) (fun _ h9 => h9) dX2_measure_5 ?_
  refine W.eq (g2 := F0 m 8 ls [.int 0]) rfl ?_
  refine lv_istore_n (lv' := [(2, .int 0), (0, .ref h0), (1, .int 0)]) hx hb dX2_measure_8 rfl hl (by decide) rfl (fun ls hl => ?_)
  refine lv_bipush (v := 6) hx hb dX2_measure_9 (by decide) ?_
  refine lv_istore_n (lv' := [(3, .int 6), (2, .int 0), (0, .ref h0), (1, .int 0)]) hx hb dX2_measure_11 rfl hl (by decide) rfl (fun ls hl => ?_)
  refine lv_iconst (v := 1) hx hb dX2_measure_12 (by decide) ?_
  refine lv_istore (lv' := [(4, .int 1), (3, .int 6), (2, .int 0), (0, .ref h0), (1, .int 0)]) hx hb dX2_measure_13 hl (by decide) rfl (fun ls hl => ?_)
  refine lv_iconst (v := 0) hx hb dX2_measure_15 (by decide) ?_
  refine lv_istore (lv' := [(5, .int 0), (4, .int 1), (3, .int 6), (2, .int 0), (0, .ref h0), (1, .int 0)]) hx hb dX2_measure_16 hl (by decide) rfl (fun ls hl => ?_)
  refine lv_iload_n hx hb dX2_measure_18 rfl (lv_at hl 3 rfl) ?_
  refine lv_iconst (v := 1) hx hb dX2_measure_19 (by decide) ?_
  refine lv_icmp_lt (tgt := 64) hx hb dX2_measure_20 (by decide) (fun _ => ?_) (fun c9 => absurd c9 (by decide))
  refine lv_iload_n hx hb dX2_measure_64 rfl (lv_at hl 3 rfl) ?_
  refine lv_iconst (v := 2) hx hb dX2_measure_65 (by decide) ?_
  refine lv_icmp_ne (tgt := 119) hx hb dX2_measure_66 (by decide) (fun _ => ?_) (fun c9 => absurd c9 (by decide))
  refine lv_aload_n hx hb dX2_measure_119 rfl (lv_at hl 4 rfl) ?_
  refine lv_iload_n hx hb dX2_measure_120 rfl (lv_at hl 5 rfl) ?_
  refine va_cse (W.runV (As := [.int 0]) (rest := []) ⟨hx, hb, hml, hown, hts⟩ (f_X2_kindOf_1 l D T ad sa av ta h0 [.int n0, .ref c1, .ref c2, .ref c3, .ref c4, .ref c5, .ref c6, .ref c7] c1 f1 rfl ek0) (cwV 1 hts gX2_measure_X2_kindOf rfl rfl rfl (by decide +kernel) ⟨Nat.le_of_ble_eq_true rfl, Nat.le_of_ble_eq_true rfl⟩) (pRk_V (ci := 1) (q0 := 0) hP hE hV hS rfl rfl [0, 1] rfl) rfl rfl hl.1 rfl (lv_room (Nat.le_of_ble_eq_true rfl)) dX2_measure_121 ⟨Nat.le_of_ble_eq_true rfl, Nat.le_of_ble_eq_true rfl⟩) (fun r_2 hr_2 => ?_)
  subst hr_2
  refine W.eq (g2 := F0 m 124 ls [.ref (ad 1)]) rfl ?_
  refine va_gets (v := .ref (ad 8)) hx hb (hV.1.1.1 8 (by decide)).1 hS hown (hts (.fieldLink RX2 68 "ClauseBook$Kind" "UNTIL" "LClauseBook$Kind;") (List.mem_of_getElem? (i := 11) rfl)) (fun _ h9 => h9) dX2_measure_124 ?_
  refine lv_acmp_ne (rx := some (ad 1)) (ry := some (ad 8)) (tgt := 141) hx hb dX2_measure_127 (by decide) (fun _ => ?_) (fun c9 => absurd c9 (fun h => absurd (hV.1.1.2 1 8 (by decide) (by decide) (Option.some.inj h)) (by decide)))
  refine lv_aload_n hx hb dX2_measure_141 rfl (lv_at hl 4 rfl) ?_
  refine va_get (D := D) (ci := 1) (v := .ref c5) (C := RX2) (T := TX2) (N := 8) hx hb hts in_X2_measure_X2 hown hE.1 hP 0 rfl rfl 5 (by decide) (hts (.fieldLink RX2 28 "ClauseBook$Clauses" "end" "[I") (List.mem_of_getElem? (i := 2) rfl)) (fun _ h9 => h9) rfl dX2_measure_142 ?_
  refine lv_iload_n hx hb dX2_measure_145 rfl (lv_at hl 5 rfl) ?_
  refine lv_iload_n hx hb dX2_measure_146 rfl (lv_at hl 2 rfl) ?_
  refine va_iast hx hb hE.1 hP hD hS 2 0 rfl rfl (by unfold vp_in; decide) dX2_measure_147 (fun H locs hP hD hS => ?_)
  have hP : va_P D vwCl [(h0, .inr (1, [.int n0, .ref c1, .ref c2, .ref c3, .ref c4, .ref c5, .ref c6, .ref c7])), (c1, .inl (T 0, 24, .inl f1)), (c5, .inl (T 0, 24, .inl (upd f5 0 6))), (c6, .inl (T 0, 24, .inl f6)), (c7, .inl (T 0, 24, .inl f7))] H := hP
  have hD : va_D A [(h0, .inr (1, [.int n0, .ref c1, .ref c2, .ref c3, .ref c4, .ref c5, .ref c6, .ref c7])), (c1, .inl (T 0, 24, .inl f1)), (c5, .inl (T 0, 24, .inl (upd f5 0 6))), (c6, .inl (T 0, 24, .inl f6)), (c7, .inl (T 0, 24, .inl f7))] := hD
  refine lv_aload_n hx hb dX2_measure_148 rfl (lv_at hl 4 rfl) ?_
  refine va_get (D := D) (ci := 1) (v := .ref c6) (C := RX2) (T := TX2) (N := 8) hx hb hts in_X2_measure_X2 hown hE.1 hP 0 rfl rfl 6 (by decide) (hts (.fieldLink RX2 31 "ClauseBook$Clauses" "made" "[I") (List.mem_of_getElem? (i := 4) rfl)) (fun _ h9 => h9) rfl dX2_measure_149 ?_
  refine lv_iload_n hx hb dX2_measure_152 rfl (lv_at hl 5 rfl) ?_
  refine lv_iload hx hb dX2_measure_153 (lv_at hl 1 rfl) ?_
  refine va_iast hx hb hE.1 hP hD hS 3 0 rfl rfl (by unfold vp_in; decide) dX2_measure_155 (fun H locs hP hD hS => ?_)
  have hP : va_P D vwCl [(h0, .inr (1, [.int n0, .ref c1, .ref c2, .ref c3, .ref c4, .ref c5, .ref c6, .ref c7])), (c1, .inl (T 0, 24, .inl f1)), (c5, .inl (T 0, 24, .inl (upd f5 0 6))), (c6, .inl (T 0, 24, .inl (upd f6 0 1))), (c7, .inl (T 0, 24, .inl f7))] H := hP
  have hD : va_D A [(h0, .inr (1, [.int n0, .ref c1, .ref c2, .ref c3, .ref c4, .ref c5, .ref c6, .ref c7])), (c1, .inl (T 0, 24, .inl f1)), (c5, .inl (T 0, 24, .inl (upd f5 0 6))), (c6, .inl (T 0, 24, .inl (upd f6 0 1))), (c7, .inl (T 0, 24, .inl f7))] := hD
  refine lv_aload_n hx hb dX2_measure_156 rfl (lv_at hl 4 rfl) ?_
  refine va_get (D := D) (ci := 1) (v := .ref c7) (C := RX2) (T := TX2) (N := 8) hx hb hts in_X2_measure_X2 hown hE.1 hP 0 rfl rfl 7 (by decide) (hts (.fieldLink RX2 34 "ClauseBook$Clauses" "deep" "[I") (List.mem_of_getElem? (i := 5) rfl)) (fun _ h9 => h9) rfl dX2_measure_157 ?_
  refine lv_iload_n hx hb dX2_measure_160 rfl (lv_at hl 5 rfl) ?_
  refine lv_iload hx hb dX2_measure_161 (lv_at hl 0 rfl) ?_
  refine lv_iconst (v := 1) hx hb dX2_measure_163 (by decide) ?_
  refine lv_iadd hx hb dX2_measure_164 ?_
  refine lv_topi (fun z_3 ez_3 => ?_)
  obtain rfl : z_3 = 1 := ez_3.trans (by decide)
  refine va_iast hx hb hE.1 hP hD hS 4 0 rfl rfl (by unfold vp_in; decide) dX2_measure_165 (fun H locs hP hD hS => ?_)
  have hP : va_P D vwCl [(h0, .inr (1, [.int n0, .ref c1, .ref c2, .ref c3, .ref c4, .ref c5, .ref c6, .ref c7])), (c1, .inl (T 0, 24, .inl f1)), (c5, .inl (T 0, 24, .inl (upd f5 0 6))), (c6, .inl (T 0, 24, .inl (upd f6 0 1))), (c7, .inl (T 0, 24, .inl (upd f7 0 1)))] H := hP
  have hD : va_D A [(h0, .inr (1, [.int n0, .ref c1, .ref c2, .ref c3, .ref c4, .ref c5, .ref c6, .ref c7])), (c1, .inl (T 0, 24, .inl f1)), (c5, .inl (T 0, 24, .inl (upd f5 0 6))), (c6, .inl (T 0, 24, .inl (upd f6 0 1))), (c7, .inl (T 0, 24, .inl (upd f7 0 1)))] := hD
  exact W.vret hx hb hr (fun t ht hW => ⟨⟨(), rfl, trivial, by rw [ht]; exact hP.sub [0] rfl, hD.sub [0] (by decide) rfl⟩, hS.F ht⟩) hS.2.2 dX2_measure_166
set_option maxHeartbeats 4000000 in
set_option maxRecDepth 100000 in
theorem f_X2_rename_1 (l : Launch) (D : va_G) (T : Nat → ClassId) (ad sa av : Nat → Nat) (ta : Nat) (sz : Nat) (h0 : Nat) (c1 : Nat) (c2 : Nat) (c3 : Nat) (c4 : Nat) (c5 : Nat) (c6 : Nat) (c7 : Nat) (f1 : Nat → Int32) (f3 : Nat → Int32) (f4 : Nat → Int32) (f5 : Nat → Int32) (f6 : Nat → Int32) (f7 : Nat → Int32) (x2 : Int32) (x3 : Int32) (ek0 : f1 0 = 1) : Met l yX2_rename wsX2_rename ({ frames := 2, cells := 0, slots := 0, locals := 46 }) (pWk [.ref h0, .int 0, .int x2, .int x3] D T [(h0, .inr (1, [.int 1, .ref c1, .ref c2, .ref c3, .ref c4, .ref c5, .ref c6, .ref c7])), (c1, .inl (T 0, 24, .inl f1)), (c3, .inl (T 0, 24, .inl f3)), (c4, .inl (T 0, 24, .inl f4)), (c5, .inl (T 0, 24, .inl f5)), (c6, .inl (T 0, 24, .inl f6)), (c7, .inl (T 0, 24, .inl f7))] sz ad sa av ta) (va_Qv (fun (u : Unit) => True) (bW D (va_A [(h0, .inr (1, [.int 1, .ref c1, .ref c2, .ref c3, .ref c4, .ref c5, .ref c6, .ref c7])), (c1, .inl (T 0, 24, .inl f1)), (c3, .inl (T 0, 24, .inl f3)), (c4, .inl (T 0, 24, .inl f4)), (c5, .inl (T 0, 24, .inl f5)), (c6, .inl (T 0, 24, .inl f6)), (c7, .inl (T 0, 24, .inl f7))] sz) (fun (u : Unit) => ([] : va_W))) (va_A [(h0, .inr (1, [.int 1, .ref c1, .ref c2, .ref c3, .ref c4, .ref c5, .ref c6, .ref c7])), (c1, .inl (T 0, 24, .inl f1)), (c3, .inl (T 0, 24, .inl f3)), (c4, .inl (T 0, 24, .inl f4)), (c5, .inl (T 0, 24, .inl f5)), (c6, .inl (T 0, 24, .inl f6)), (c7, .inl (T 0, 24, .inl f7))] sz)) 0 0 (va_A [(h0, .inr (1, [.int 1, .ref c1, .ref c2, .ref c3, .ref c4, .ref c5, .ref c6, .ref c7])), (c1, .inl (T 0, 24, .inl f1)), (c3, .inl (T 0, 24, .inl f3)), (c4, .inl (T 0, 24, .inl f4)), (c5, .inl (T 0, 24, .inl f5)), (c6, .inl (T 0, 24, .inl f6)), (c7, .inl (T 0, 24, .inl f7))] sz) := by
  refine Met.ofW (cc := cX2_rename) (maxL := 6) (ret := none) (by decide) rfl ?_
  intro p e s m args below meth c s₁ B hml hv
  obtain ⟨rfl, hsz, hP, hE, hD0, hV⟩ := hv
  have hx := B.exec
  have hb := B.bytes
  have hr := B.returns
  have hts := atoms_spec (ws := wsX2_rename) B.pre
  have hown : s.vm.findClass RX2 = some m.cls := findClass_of_methodNamed B.named
  have hlocks := B.notSynchronized
  subst hsz
  have hD := hD0.self (sz := s.heap.size)
  generalize hAe : va_A [(h0, .inr (1, [.int 1, .ref c1, .ref c2, .ref c3, .ref c4, .ref c5, .ref c6, .ref c7])), (c1, .inl (T 0, 24, .inl f1)), (c3, .inl (T 0, 24, .inl f3)), (c4, .inl (T 0, 24, .inl f4)), (c5, .inl (T 0, 24, .inl f5)), (c6, .inl (T 0, 24, .inl f6)), (c7, .inl (T 0, 24, .inl f7))] s.heap.size = A at hD hV ⊢
  have hA : ∀ q : Nat, s.heap.size ≤ q → A q := fun q h => by rw [← hAe]; exact Or.inr h
  have hS : va_S A s.heap s.heap [] := va_S.rf
  have hP : va_P D vwCl [(h0, .inr (1, [.int 1, .ref c1, .ref c2, .ref c3, .ref c4, .ref c5, .ref c6, .ref c7])), (c1, .inl (T 0, 24, .inl f1)), (c3, .inl (T 0, 24, .inl f3)), (c4, .inl (T 0, 24, .inl f4)), (c5, .inl (T 0, 24, .inl f5)), (c6, .inl (T 0, 24, .inl f6)), (c7, .inl (T 0, 24, .inl f7))] s.heap := hP
  have hl := lv_entry ([.ref h0, .int 0, .int x2, .int x3]) (n := 6) (Nat.le_of_ble_eq_true rfl)
  rw [lg_entry_eq]
  generalize (lg_sl ([.ref h0, .int 0, .int x2, .int x3]) ++ List.replicate (6 - (lg_sl ([.ref h0, .int 0, .int x2, .int x3])).length) Slot.unset).toArray = ls at hl ⊢
  have hl : lv_has ls 6 [(0, .ref h0), (1, .int 0), (2, .int x2), (3, .int x3)] := hl
  clear hD0
  refine lv_aload_n hx hb dX2_rename_0 rfl (lv_at hl 0 rfl) ?_
  refine lv_iload_n hx hb dX2_rename_1 rfl (lv_at hl 1 rfl) ?_
  refine va_cse (W.runV (As := [.int 0]) (rest := []) ⟨hx, hb, hml, hown, hts⟩ (f_X2_kindOf_1 l D T ad sa av ta h0 [.int 1, .ref c1, .ref c2, .ref c3, .ref c4, .ref c5, .ref c6, .ref c7] c1 f1 rfl ek0) (cwV 1 hts gX2_rename_X2_kindOf rfl rfl rfl (by decide +kernel) ⟨Nat.le_of_ble_eq_true rfl, Nat.le_of_ble_eq_true rfl⟩) (pRk_V (ci := 1) (q0 := 0) hP hE hV hS rfl rfl [0, 1] rfl) rfl rfl hl.1 rfl (lv_room (Nat.le_of_ble_eq_true rfl)) dX2_rename_2 ⟨Nat.le_of_ble_eq_true rfl, Nat.le_of_ble_eq_true rfl⟩) (fun r_1 hr_1 => ?_)
  subst hr_1
  refine W.eq (g2 := F0 m 5 ls [.ref (ad 1)]) rfl ?_
  refine va_getE (i := 1) hx hb hV.1.1 (by decide) hS hown (q := kdQ "names" [0, 0, 1, 1, 1, 2, 2, 2, 1, 2, 1, 1, 2]) (List.mem_of_getElem? (i := 0) rfl) (hts (.fieldLink RX2 55 "ClauseBook$Kind" "names" "I") (List.mem_of_getElem? (i := 1) rfl)) (fun _ h9 => h9) dX2_rename_5 ?_
  refine W.eq (g2 := F0 m 8 ls [.int 0]) rfl ?_
  refine lv_istore (lv' := [(4, .int 0), (0, .ref h0), (1, .int 0), (2, .int x2), (3, .int x3)]) hx hb dX2_rename_8 hl (by decide) rfl (fun ls hl => ?_)
  refine lv_aload_n hx hb dX2_rename_10 rfl (lv_at hl 1 rfl) ?_
  refine va_get (D := D) (ci := 1) (v := .ref c3) (C := RX2) (T := TX2) (N := 8) hx hb hts in_X2_rename_X2 hown hE.1 hP 0 rfl rfl 3 (by decide) (hts (.fieldLink RX2 22 "ClauseBook$Clauses" "c" "[I") (List.mem_of_getElem? (i := 2) rfl)) (fun _ h9 => h9) rfl dX2_rename_11 ?_
  refine lv_iload_n hx hb dX2_rename_14 rfl (lv_at hl 2 rfl) ?_
  refine lv_iload hx hb dX2_rename_15 (lv_at hl 0 rfl) ?_
  refine lv_iconst (v := 1) hx hb dX2_rename_17 (by decide) ?_
  refine lv_icmp_lt (tgt := 25) hx hb dX2_rename_18 (by decide) (fun _ => ?_) (fun c9 => absurd c9 (by decide))
  refine lv_iconst (v := (-1)) hx hb dX2_rename_25 (by decide) ?_
  refine va_iast hx hb hE.1 hP hD hS 2 0 rfl rfl (by unfold vp_in; decide) dX2_rename_26 (fun H locs hP hD hS => ?_)
  have hP : va_P D vwCl [(h0, .inr (1, [.int 1, .ref c1, .ref c2, .ref c3, .ref c4, .ref c5, .ref c6, .ref c7])), (c1, .inl (T 0, 24, .inl f1)), (c3, .inl (T 0, 24, .inl (upd f3 0 (-1)))), (c4, .inl (T 0, 24, .inl f4)), (c5, .inl (T 0, 24, .inl f5)), (c6, .inl (T 0, 24, .inl f6)), (c7, .inl (T 0, 24, .inl f7))] H := hP
  have hD : va_D A [(h0, .inr (1, [.int 1, .ref c1, .ref c2, .ref c3, .ref c4, .ref c5, .ref c6, .ref c7])), (c1, .inl (T 0, 24, .inl f1)), (c3, .inl (T 0, 24, .inl (upd f3 0 (-1)))), (c4, .inl (T 0, 24, .inl f4)), (c5, .inl (T 0, 24, .inl f5)), (c6, .inl (T 0, 24, .inl f6)), (c7, .inl (T 0, 24, .inl f7))] := hD
  refine lv_aload_n hx hb dX2_rename_27 rfl (lv_at hl 1 rfl) ?_
  refine va_get (D := D) (ci := 1) (v := .ref c4) (C := RX2) (T := TX2) (N := 8) hx hb hts in_X2_rename_X2 hown hE.1 hP 0 rfl rfl 4 (by decide) (hts (.fieldLink RX2 25 "ClauseBook$Clauses" "d" "[I") (List.mem_of_getElem? (i := 3) rfl)) (fun _ h9 => h9) rfl dX2_rename_28 ?_
  refine lv_iload_n hx hb dX2_rename_31 rfl (lv_at hl 2 rfl) ?_
  refine lv_iload hx hb dX2_rename_32 (lv_at hl 0 rfl) ?_
  refine lv_iconst (v := 2) hx hb dX2_rename_34 (by decide) ?_
  refine lv_icmp_ne (tgt := 42) hx hb dX2_rename_35 (by decide) (fun _ => ?_) (fun c9 => absurd c9 (by decide))
  refine lv_iconst (v := (-1)) hx hb dX2_rename_42 (by decide) ?_
  refine va_iast hx hb hE.1 hP hD hS 3 0 rfl rfl (by unfold vp_in; decide) dX2_rename_43 (fun H locs hP hD hS => ?_)
  have hP : va_P D vwCl [(h0, .inr (1, [.int 1, .ref c1, .ref c2, .ref c3, .ref c4, .ref c5, .ref c6, .ref c7])), (c1, .inl (T 0, 24, .inl f1)), (c3, .inl (T 0, 24, .inl (upd f3 0 (-1)))), (c4, .inl (T 0, 24, .inl (upd f4 0 (-1)))), (c5, .inl (T 0, 24, .inl f5)), (c6, .inl (T 0, 24, .inl f6)), (c7, .inl (T 0, 24, .inl f7))] H := hP
  have hD : va_D A [(h0, .inr (1, [.int 1, .ref c1, .ref c2, .ref c3, .ref c4, .ref c5, .ref c6, .ref c7])), (c1, .inl (T 0, 24, .inl f1)), (c3, .inl (T 0, 24, .inl (upd f3 0 (-1)))), (c4, .inl (T 0, 24, .inl (upd f4 0 (-1)))), (c5, .inl (T 0, 24, .inl f5)), (c6, .inl (T 0, 24, .inl f6)), (c7, .inl (T 0, 24, .inl f7))] := hD
  refine lv_iload_n hx hb dX2_rename_44 rfl (lv_at hl 2 rfl) ?_
  refine lv_istore (lv' := [(5, .int 0), (4, .int 0), (0, .ref h0), (1, .int 0), (2, .int x2), (3, .int x3)]) hx hb dX2_rename_45 hl (by decide) rfl (fun ls hl => ?_)
  refine lv_iload hx hb dX2_rename_47 (lv_at hl 0 rfl) ?_
  refine lv_aload_n hx hb dX2_rename_49 rfl (lv_at hl 2 rfl) ?_
  refine va_get (D := D) (ci := 1) (v := .int 1) (C := RX2) (T := TX2) (N := 8) hx hb hts in_X2_rename_X2 hown hE.1 hP 0 rfl rfl 0 (by decide) (hts (.fieldLink RX2 9 "ClauseBook$Clauses" "size" "I") (List.mem_of_getElem? (i := 4) rfl)) (fun _ h9 => h9) rfl dX2_rename_50 ?_
  refine lv_icmp_ge (tgt := 68) hx hb dX2_rename_53 (by decide) (fun c9 => absurd c9 (by decide)) (fun _ => ?_)
  refine lv_aload_n hx hb dX2_rename_56 rfl (lv_at hl 2 rfl) ?_
  refine lv_iload hx hb dX2_rename_57 (lv_at hl 0 rfl) ?_
  have hFc := va_free (wc := [(h0, .inr (1, [.int 1, .ref c1, .ref c2, .ref c3, .ref c4, .ref c5, .ref c6, .ref c7])), (c1, .inl (T 0, 24, .inl f1)), (c5, .inl (T 0, 24, .inl f5)), (c6, .inl (T 0, 24, .inl f6)), (c7, .inl (T 0, 24, .inl f7))]) hD hS hA [0, 1, 4, 5, 6] rfl
  refine va_callv (va_runV (As := [.int 0]) (rest := []) ⟨hx, hb, hml, hown, hts⟩ (f_X2_measure_1 l D T ad sa av ta _ h0 1 c1 c2 c3 c4 c5 c6 c7 f1 f5 f6 f7 ek0) (cwV 1 hts gX2_rename_X2_measure rfl rfl rfl (by decide +kernel) ⟨Nat.le_of_ble_eq_true rfl, Nat.le_of_ble_eq_true rfl⟩) (pWk_V (ci := 1) (q0 := 0) hP hE hD hV hS hFc rfl rfl [0, 1, 4, 5, 6] (by decide) rfl rfl) rfl rfl hl.1 rfl (lv_room (Nat.le_of_ble_eq_true rfl)) dX2_rename_59 ⟨Nat.le_of_ble_eq_true rfl, Nat.le_of_ble_eq_true rfl⟩) hS (fun q _ h => hFc q h) hFc (fun u_3 t H1 locs ht hvm hr_2 hB hz1 hk1 hS => ?_)
  obtain ⟨hP1, hD1⟩ := hB
  rw [ht] at hP1
  obtain ⟨hP, hD⟩ := va_join (wr := [(c3, .inl (T 0, 24, .inl (upd f3 0 (-1)))), (c4, .inl (T 0, 24, .inl (upd f4 0 (-1))))]) (w1 := [(h0, .inr (1, [.int 1, .ref c1, .ref c2, .ref c3, .ref c4, .ref c5, .ref c6, .ref c7]))]) hP hD [0, 1, 4, 5, 6] [2, 3] rfl rfl (by decide) (by decide) hk1 hFc hP1 hD1
  clear hP1 hD1 hFc
  generalize H1 = H at hP hS ⊢
  have hP : va_P D vwCl [(c3, .inl (T 0, 24, .inl (upd f3 0 (-1)))), (c4, .inl (T 0, 24, .inl (upd f4 0 (-1)))), (h0, .inr (1, [.int 1, .ref c1, .ref c2, .ref c3, .ref c4, .ref c5, .ref c6, .ref c7]))] H := hP
  have hD : va_D A [(c3, .inl (T 0, 24, .inl (upd f3 0 (-1)))), (c4, .inl (T 0, 24, .inl (upd f4 0 (-1)))), (h0, .inr (1, [.int 1, .ref c1, .ref c2, .ref c3, .ref c4, .ref c5, .ref c6, .ref c7]))] := hD
  refine lv_iinc (v := 1) (lv' := [(5, .int 1), (4, .int 0), (0, .ref h0), (1, .int 0), (2, .int x2), (3, .int x3)]) hx hb dX2_rename_62 hl (k := 0) rfl (by decide) (by decide) rfl (fun ls hl => ?_)
  refine lv_goto (tgt := 47) hx hb dX2_rename_65 (by decide) ?_
  refine lv_iload hx hb dX2_rename_47 (lv_at hl 0 rfl) ?_
  refine lv_aload_n hx hb dX2_rename_49 rfl (lv_at hl 2 rfl) ?_
  refine va_get (D := D) (ci := 1) (v := .int 1) (C := RX2) (T := TX2) (N := 8) hx hb hts in_X2_rename_X2 hown hE.1 hP 2 rfl rfl 0 (by decide) (hts (.fieldLink RX2 9 "ClauseBook$Clauses" "size" "I") (List.mem_of_getElem? (i := 4) rfl)) (fun _ h9 => h9) rfl dX2_rename_50 ?_
  refine lv_icmp_ge (tgt := 68) hx hb dX2_rename_53 (by decide) (fun _ => ?_) (fun c9 => absurd c9 (by decide))
  exact W.vret hx hb hr (fun t ht hW => ⟨⟨(), rfl, trivial, by rw [ht]; exact hP.sub [] rfl, hD.sub [] (by decide) rfl⟩, hS.F ht⟩) hS.2.2 dX2_rename_68
set_option maxHeartbeats 4000000 in
set_option maxRecDepth 100000 in
theorem f_X2_append_1 (l : Launch) (D : va_G) (T : Nat → ClassId) (ad sa av : Nat → Nat) (ta : Nat) (sz : Nat) (h0 : Nat) (c1 : Nat) (c2 : Nat) (c3 : Nat) (c4 : Nat) (c5 : Nat) (c6 : Nat) (c7 : Nat) (f1 : Nat → Int32) (f2 : Nat → Int32) (f3 : Nat → Int32) (f4 : Nat → Int32) (f5 : Nat → Int32) (f6 : Nat → Int32) (f7 : Nat → Int32) (x2 : Int32) (x3 : Int32) (x4 : Int32)  : Met l yX2_append wsX2_append ({ frames := 3, cells := 0, slots := 0, locals := 71 }) (pWk [.ref h0, .int 1, .int x2, .int x3, .int x4] D T [(h0, .inr (1, [.int 0, .ref c1, .ref c2, .ref c3, .ref c4, .ref c5, .ref c6, .ref c7])), (c1, .inl (T 0, 24, .inl f1)), (c2, .inl (T 0, 24, .inl f2)), (c3, .inl (T 0, 24, .inl f3)), (c4, .inl (T 0, 24, .inl f4)), (c5, .inl (T 0, 24, .inl f5)), (c6, .inl (T 0, 24, .inl f6)), (c7, .inl (T 0, 24, .inl f7))] sz ad sa av ta) (va_Qi (fun (r : Int32) (u : Unit) => r = 0) (bW D (va_A [(h0, .inr (1, [.int 0, .ref c1, .ref c2, .ref c3, .ref c4, .ref c5, .ref c6, .ref c7])), (c1, .inl (T 0, 24, .inl f1)), (c2, .inl (T 0, 24, .inl f2)), (c3, .inl (T 0, 24, .inl f3)), (c4, .inl (T 0, 24, .inl f4)), (c5, .inl (T 0, 24, .inl f5)), (c6, .inl (T 0, 24, .inl f6)), (c7, .inl (T 0, 24, .inl f7))] sz) (fun (u : Unit) => ([] : va_W))) (va_A [(h0, .inr (1, [.int 0, .ref c1, .ref c2, .ref c3, .ref c4, .ref c5, .ref c6, .ref c7])), (c1, .inl (T 0, 24, .inl f1)), (c2, .inl (T 0, 24, .inl f2)), (c3, .inl (T 0, 24, .inl f3)), (c4, .inl (T 0, 24, .inl f4)), (c5, .inl (T 0, 24, .inl f5)), (c6, .inl (T 0, 24, .inl f6)), (c7, .inl (T 0, 24, .inl f7))] sz)) 0 0 (va_A [(h0, .inr (1, [.int 0, .ref c1, .ref c2, .ref c3, .ref c4, .ref c5, .ref c6, .ref c7])), (c1, .inl (T 0, 24, .inl f1)), (c2, .inl (T 0, 24, .inl f2)), (c3, .inl (T 0, 24, .inl f3)), (c4, .inl (T 0, 24, .inl f4)), (c5, .inl (T 0, 24, .inl f5)), (c6, .inl (T 0, 24, .inl f6)), (c7, .inl (T 0, 24, .inl f7))] sz) := by
  refine Met.ofW (cc := cX2_append) (maxL := 6) (ret := (some .int)) (by decide) rfl ?_
  intro p e s m args below meth c s₁ B hml hv
  obtain ⟨rfl, hsz, hP, hE, hD0, hV⟩ := hv
  have hx := B.exec
  have hb := B.bytes
  have hr := B.returns
  have hts := atoms_spec (ws := wsX2_append) B.pre
  have hown : s.vm.findClass RX2 = some m.cls := findClass_of_methodNamed B.named
  have hlocks := B.notSynchronized
  subst hsz
  have hD := hD0.self (sz := s.heap.size)
  generalize hAe : va_A [(h0, .inr (1, [.int 0, .ref c1, .ref c2, .ref c3, .ref c4, .ref c5, .ref c6, .ref c7])), (c1, .inl (T 0, 24, .inl f1)), (c2, .inl (T 0, 24, .inl f2)), (c3, .inl (T 0, 24, .inl f3)), (c4, .inl (T 0, 24, .inl f4)), (c5, .inl (T 0, 24, .inl f5)), (c6, .inl (T 0, 24, .inl f6)), (c7, .inl (T 0, 24, .inl f7))] s.heap.size = A at hD hV ⊢
  have hA : ∀ q : Nat, s.heap.size ≤ q → A q := fun q h => by rw [← hAe]; exact Or.inr h
  have hS : va_S A s.heap s.heap [] := va_S.rf
  have hP : va_P D vwCl [(h0, .inr (1, [.int 0, .ref c1, .ref c2, .ref c3, .ref c4, .ref c5, .ref c6, .ref c7])), (c1, .inl (T 0, 24, .inl f1)), (c2, .inl (T 0, 24, .inl f2)), (c3, .inl (T 0, 24, .inl f3)), (c4, .inl (T 0, 24, .inl f4)), (c5, .inl (T 0, 24, .inl f5)), (c6, .inl (T 0, 24, .inl f6)), (c7, .inl (T 0, 24, .inl f7))] s.heap := hP
  have hl := lv_entry ([.ref h0, .int 1, .int x2, .int x3, .int x4]) (n := 6) (Nat.le_of_ble_eq_true rfl)
  rw [lg_entry_eq]
  generalize (lg_sl ([.ref h0, .int 1, .int x2, .int x3, .int x4]) ++ List.replicate (6 - (lg_sl ([.ref h0, .int 1, .int x2, .int x3, .int x4])).length) Slot.unset).toArray = ls at hl ⊢
  have hl : lv_has ls 6 [(0, .ref h0), (1, .int 1), (2, .int x2), (3, .int x3), (4, .int x4)] := hl
  clear hD0
  refine lv_aload_n hx hb dX2_append_0 rfl (lv_at hl 0 rfl) ?_
  refine va_get (D := D) (ci := 1) (v := .int 0) (C := RX2) (T := TX2) (N := 8) hx hb hts in_X2_append_X2 hown hE.1 hP 0 rfl rfl 0 (by decide) (hts (.fieldLink RX2 9 "ClauseBook$Clauses" "size" "I") (List.mem_of_getElem? (i := 1) rfl)) (fun _ h9 => h9) rfl dX2_append_1 ?_
  refine lv_bipush (v := 24) hx hb dX2_append_4 (by decide) ?_
  refine lv_icmp_lt (tgt := 12) hx hb dX2_append_6 (by decide) (fun _ => ?_) (fun c9 => absurd c9 (by decide))
  refine lv_aload_n hx hb dX2_append_12 rfl (lv_at hl 0 rfl) ?_
  refine va_get (D := D) (ci := 1) (v := .int 0) (C := RX2) (T := TX2) (N := 8) hx hb hts in_X2_append_X2 hown hE.1 hP 0 rfl rfl 0 (by decide) (hts (.fieldLink RX2 9 "ClauseBook$Clauses" "size" "I") (List.mem_of_getElem? (i := 1) rfl)) (fun _ h9 => h9) rfl dX2_append_13 ?_
  refine lv_istore (lv' := [(5, .int 0), (0, .ref h0), (1, .int 1), (2, .int x2), (3, .int x3), (4, .int x4)]) hx hb dX2_append_16 hl (by decide) rfl (fun ls hl => ?_)
  refine lv_aload_n hx hb dX2_append_18 rfl (lv_at hl 1 rfl) ?_
  refine lv_dup hx hb dX2_append_19 rfl ?_
  refine va_get (D := D) (ci := 1) (v := .int 0) (C := RX2) (T := TX2) (N := 8) hx hb hts in_X2_append_X2 hown hE.1 hP 0 rfl rfl 0 (by decide) (hts (.fieldLink RX2 9 "ClauseBook$Clauses" "size" "I") (List.mem_of_getElem? (i := 1) rfl)) (fun _ h9 => h9) rfl dX2_append_20 ?_
  refine lv_iconst (v := 1) hx hb dX2_append_23 (by decide) ?_
  refine lv_iadd hx hb dX2_append_24 ?_
  refine lv_topi (fun z_1 ez_1 => ?_)
  obtain rfl : z_1 = 1 := ez_1.trans (by decide)
  refine va_put (D := D) (ci := 1) (v := .int 1) (ty := .int) (C := RX2) (T := TX2) (N := 8) hx hb hts in_X2_append_X2 tyX2 tyX2_ok nmX2 hown hE.1 hP hD hS 0 rfl rfl 0 (by decide) (hts (.fieldLink RX2 9 "ClauseBook$Clauses" "size" "I") (List.mem_of_getElem? (i := 1) rfl)) (fun _ h9 => h9) rfl (by decide +kernel) rfl rfl (Nat.le_of_ble_eq_true rfl) dX2_append_25 (fun H locs hP hD hS => ?_)
  have hP : va_P D vwCl [(h0, .inr (1, [.int 1, .ref c1, .ref c2, .ref c3, .ref c4, .ref c5, .ref c6, .ref c7])), (c1, .inl (T 0, 24, .inl f1)), (c2, .inl (T 0, 24, .inl f2)), (c3, .inl (T 0, 24, .inl f3)), (c4, .inl (T 0, 24, .inl f4)), (c5, .inl (T 0, 24, .inl f5)), (c6, .inl (T 0, 24, .inl f6)), (c7, .inl (T 0, 24, .inl f7))] H := hP
  have hD : va_D A [(h0, .inr (1, [.int 1, .ref c1, .ref c2, .ref c3, .ref c4, .ref c5, .ref c6, .ref c7])), (c1, .inl (T 0, 24, .inl f1)), (c2, .inl (T 0, 24, .inl f2)), (c3, .inl (T 0, 24, .inl f3)), (c4, .inl (T 0, 24, .inl f4)), (c5, .inl (T 0, 24, .inl f5)), (c6, .inl (T 0, 24, .inl f6)), (c7, .inl (T 0, 24, .inl f7))] := hD
  refine lv_aload_n hx hb dX2_append_28 rfl (lv_at hl 1 rfl) ?_
  refine va_get (D := D) (ci := 1) (v := .ref c1) (C := RX2) (T := TX2) (N := 8) hx hb hts in_X2_append_X2 hown hE.1 hP 0 rfl rfl 1 (by decide) (hts (.fieldLink RX2 15 "ClauseBook$Clauses" "kind" "[I") (List.mem_of_getElem? (i := 2) rfl)) (fun _ h9 => h9) rfl dX2_append_29 ?_
  refine lv_iload hx hb dX2_append_32 (lv_at hl 0 rfl) ?_
  refine lv_iload_n hx hb dX2_append_34 rfl (lv_at hl 2 rfl) ?_
  refine va_iast hx hb hE.1 hP hD hS 1 0 rfl rfl (by unfold vp_in; decide) dX2_append_35 (fun H locs hP hD hS => ?_)
  have hP : va_P D vwCl [(h0, .inr (1, [.int 1, .ref c1, .ref c2, .ref c3, .ref c4, .ref c5, .ref c6, .ref c7])), (c1, .inl (T 0, 24, .inl (upd f1 0 1))), (c2, .inl (T 0, 24, .inl f2)), (c3, .inl (T 0, 24, .inl f3)), (c4, .inl (T 0, 24, .inl f4)), (c5, .inl (T 0, 24, .inl f5)), (c6, .inl (T 0, 24, .inl f6)), (c7, .inl (T 0, 24, .inl f7))] H := hP
  have hD : va_D A [(h0, .inr (1, [.int 1, .ref c1, .ref c2, .ref c3, .ref c4, .ref c5, .ref c6, .ref c7])), (c1, .inl (T 0, 24, .inl (upd f1 0 1))), (c2, .inl (T 0, 24, .inl f2)), (c3, .inl (T 0, 24, .inl f3)), (c4, .inl (T 0, 24, .inl f4)), (c5, .inl (T 0, 24, .inl f5)), (c6, .inl (T 0, 24, .inl f6)), (c7, .inl (T 0, 24, .inl f7))] := hD
  refine lv_aload_n hx hb dX2_append_36 rfl (lv_at hl 1 rfl) ?_
  refine va_get (D := D) (ci := 1) (v := .ref c2) (C := RX2) (T := TX2) (N := 8) hx hb hts in_X2_append_X2 hown hE.1 hP 0 rfl rfl 2 (by decide) (hts (.fieldLink RX2 19 "ClauseBook$Clauses" "n" "[I") (List.mem_of_getElem? (i := 3) rfl)) (fun _ h9 => h9) rfl dX2_append_37 ?_
  refine lv_iload hx hb dX2_append_40 (lv_at hl 0 rfl) ?_
  refine lv_iload_n hx hb dX2_append_42 rfl (lv_at hl 3 rfl) ?_
  refine va_iast hx hb hE.1 hP hD hS 2 0 rfl rfl (by unfold vp_in; decide) dX2_append_43 (fun H locs hP hD hS => ?_)
  have hP : va_P D vwCl [(h0, .inr (1, [.int 1, .ref c1, .ref c2, .ref c3, .ref c4, .ref c5, .ref c6, .ref c7])), (c1, .inl (T 0, 24, .inl (upd f1 0 1))), (c2, .inl (T 0, 24, .inl (upd f2 0 x2))), (c3, .inl (T 0, 24, .inl f3)), (c4, .inl (T 0, 24, .inl f4)), (c5, .inl (T 0, 24, .inl f5)), (c6, .inl (T 0, 24, .inl f6)), (c7, .inl (T 0, 24, .inl f7))] H := hP
  have hD : va_D A [(h0, .inr (1, [.int 1, .ref c1, .ref c2, .ref c3, .ref c4, .ref c5, .ref c6, .ref c7])), (c1, .inl (T 0, 24, .inl (upd f1 0 1))), (c2, .inl (T 0, 24, .inl (upd f2 0 x2))), (c3, .inl (T 0, 24, .inl f3)), (c4, .inl (T 0, 24, .inl f4)), (c5, .inl (T 0, 24, .inl f5)), (c6, .inl (T 0, 24, .inl f6)), (c7, .inl (T 0, 24, .inl f7))] := hD
  refine lv_aload_n hx hb dX2_append_44 rfl (lv_at hl 1 rfl) ?_
  refine lv_iload hx hb dX2_append_45 (lv_at hl 0 rfl) ?_
  refine lv_iload_n hx hb dX2_append_47 rfl (lv_at hl 4 rfl) ?_
  refine lv_iload hx hb dX2_append_48 (lv_at hl 5 rfl) ?_
  have hFc := va_free (wc := [(h0, .inr (1, [.int 1, .ref c1, .ref c2, .ref c3, .ref c4, .ref c5, .ref c6, .ref c7])), (c1, .inl (T 0, 24, .inl (upd f1 0 1))), (c3, .inl (T 0, 24, .inl f3)), (c4, .inl (T 0, 24, .inl f4)), (c5, .inl (T 0, 24, .inl f5)), (c6, .inl (T 0, 24, .inl f6)), (c7, .inl (T 0, 24, .inl f7))]) hD hS hA [0, 1, 3, 4, 5, 6, 7] rfl
  refine va_callv (va_runV (As := [.int 0, .int x3, .int x4]) (rest := []) ⟨hx, hb, hml, hown, hts⟩ (f_X2_rename_1 l D T ad sa av ta _ h0 c1 c2 c3 c4 c5 c6 c7 (upd f1 0 1) f3 f4 f5 f6 f7 x3 x4 (by first | rfl | simp [upd, vp_updL, va_up])) (cwV 3 hts gX2_append_X2_rename rfl rfl rfl (by decide +kernel) ⟨Nat.le_of_ble_eq_true rfl, Nat.le_of_ble_eq_true rfl⟩) (pWk_V (ci := 1) (q0 := 0) hP hE hD hV hS hFc rfl rfl [0, 1, 3, 4, 5, 6, 7] (by decide) rfl rfl) rfl rfl hl.1 rfl (lv_room (Nat.le_of_ble_eq_true rfl)) dX2_append_50 ⟨Nat.le_of_ble_eq_true rfl, Nat.le_of_ble_eq_true rfl⟩) hS (fun q _ h => hFc q h) hFc (fun u_3 t H1 locs ht hvm hr_2 hB hz1 hk1 hS => ?_)
  obtain ⟨hP1, hD1⟩ := hB
  rw [ht] at hP1
  obtain ⟨hP, hD⟩ := va_join (wr := [(c2, .inl (T 0, 24, .inl (upd f2 0 x2)))]) (w1 := []) hP hD [0, 1, 3, 4, 5, 6, 7] [2] rfl rfl (by decide) (by decide) hk1 hFc hP1 hD1
  clear hP1 hD1 hFc
  generalize H1 = H at hP hS ⊢
  have hP : va_P D vwCl [(c2, .inl (T 0, 24, .inl (upd f2 0 x2)))] H := hP
  have hD : va_D A [(c2, .inl (T 0, 24, .inl (upd f2 0 x2)))] := hD
  refine lv_iload hx hb dX2_append_53 (lv_at hl 0 rfl) ?_
  exact W.iret hx hb hr (fun t ht hW => ⟨⟨_, (), rfl, rfl, by rw [ht]; exact hP.sub [] rfl, hD.sub [] (by decide) rfl⟩, hS.F ht⟩) hS.2.2 dX2_append_55
