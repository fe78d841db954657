/-- as okC, but for what place x names -/
def okW (x : Nat) (fk fc fd fe : Nat → Int32) : Prop := ∀ j : Nat, j < 24 → (0 ≤ (fk j).toInt ∧ (fk j).toInt ≤ 12) ∧ (j ≠ x → 1 ≤ (nmT (fk j).toNatClampNeg).toInt → 0 ≤ (fc j).toInt ∧ (fc j).toInt < j) ∧ (j ≠ x → (nmT (fk j).toNatClampNeg).toInt = 2 → 0 ≤ (fd j).toInt ∧ (fd j).toInt < j) ∧ (fe j).toInt ≤ 6
theorem okC.ends {fk fc fd fe fe' : Nat → Int32} (h : okC fk fc fd fe) (h6 : ∀ j : Nat, j < 24 → (fe' j).toInt ≤ 6) : okC fk fc fd fe' := fun j hj => ⟨(h j hj).1, (h j hj).2.1, (h j hj).2.2.1, h6 j hj⟩
theorem okC.W {x : Nat} {fk fc fd fe : Nat → Int32} (h : okC fk fc fd fe) : okW x fk fc fd fe := fun j hj => ⟨(h j hj).1, fun _ => (h j hj).2.1, fun _ => (h j hj).2.2.1, (h j hj).2.2.2⟩
theorem okW.C {x : Int32} {fk fc fd fe : Nat → Int32} {v w : Int32} (hx : 0 ≤ x.toInt ∧ x.toInt < 24) (h : okW x.toNatClampNeg fk fc fd fe) (hv : 1 ≤ (nmT (fk x.toNatClampNeg).toNatClampNeg).toInt → 0 ≤ v.toInt ∧ v.toInt < x.toInt) (hw : (nmT (fk x.toNatClampNeg).toNatClampNeg).toInt = 2 → 0 ≤ w.toInt ∧ w.toInt < x.toInt) : okC fk (upd fc x.toNatClampNeg v) (upd fd x.toNatClampNeg w) fe := by
  intro j hj
  have h2 := (in24 hx).2
  by_cases hjx : j = x.toNatClampNeg
  · subst hjx
    have h9 := h _ hj
    refine ⟨h9.1, fun a => ?_, fun a => ?_, h9.2.2.2⟩
    · simp only [upd, if_pos]; have := hv a; omega
    · simp only [upd, if_pos]; have := hw a; omega
  · have h9 := h j hj
    simp only [upd, if_neg hjx]
    exact ⟨h9.1, h9.2.1 hjx, h9.2.2.1 hjx, h9.2.2.2⟩
theorem okW.N {x : Nat} {fk fc fd fe : Nat → Int32} (h : okW x fk fc fd fe) (hx : x ≤ 24) : okN fk fc fd x := fun j hj => ⟨(h j (by omega)).2.1 (by omega), (h j (by omega)).2.2.1 (by omega)⟩
theorem dX2_rename_0 : decode cX2_rename 0 = .ok (.aload_n 0, 1) := by decide +kernel
theorem dX2_rename_1 : decode cX2_rename 1 = .ok (.iload_n 1, 1) := by decide +kernel
theorem dX2_rename_10 : decode cX2_rename 10 = .ok (.aload_n 0, 1) := by decide +kernel
theorem dX2_rename_11 : decode cX2_rename 11 = .ok (.getfield 22, 3) := by decide +kernel
theorem dX2_rename_14 : decode cX2_rename 14 = .ok (.iload_n 1, 1) := by decide +kernel
theorem dX2_rename_15 : decode cX2_rename 15 = .ok (.iload 4, 2) := by decide +kernel
theorem dX2_rename_17 : decode cX2_rename 17 = .ok (.iconst 1, 1) := by decide +kernel
theorem dX2_rename_18 : decode cX2_rename 18 = .ok (.if_icmp .lt 7, 3) := by decide +kernel
theorem dX2_rename_2 : decode cX2_rename 2 = .ok (.invokevirtual 51, 3) := by decide +kernel
theorem dX2_rename_21 : decode cX2_rename 21 = .ok (.iload_n 2, 1) := by decide +kernel
theorem dX2_rename_22 : decode cX2_rename 22 = .ok (.goto 4, 3) := by decide +kernel
theorem dX2_rename_25 : decode cX2_rename 25 = .ok (.iconst (-1), 1) := by decide +kernel
theorem dX2_rename_26 : decode cX2_rename 26 = .ok (.iastore, 1) := by decide +kernel
theorem dX2_rename_27 : decode cX2_rename 27 = .ok (.aload_n 0, 1) := by decide +kernel
theorem dX2_rename_28 : decode cX2_rename 28 = .ok (.getfield 25, 3) := by decide +kernel
theorem dX2_rename_31 : decode cX2_rename 31 = .ok (.iload_n 1, 1) := by decide +kernel
theorem dX2_rename_32 : decode cX2_rename 32 = .ok (.iload 4, 2) := by decide +kernel
theorem dX2_rename_34 : decode cX2_rename 34 = .ok (.iconst 2, 1) := by decide +kernel
theorem dX2_rename_35 : decode cX2_rename 35 = .ok (.if_icmp .ne 7, 3) := by decide +kernel
theorem dX2_rename_38 : decode cX2_rename 38 = .ok (.iload_n 3, 1) := by decide +kernel
theorem dX2_rename_39 : decode cX2_rename 39 = .ok (.goto 4, 3) := by decide +kernel
theorem dX2_rename_42 : decode cX2_rename 42 = .ok (.iconst (-1), 1) := by decide +kernel
theorem dX2_rename_43 : decode cX2_rename 43 = .ok (.iastore, 1) := by decide +kernel
theorem dX2_rename_44 : decode cX2_rename 44 = .ok (.iload_n 1, 1) := by decide +kernel
theorem dX2_rename_45 : decode cX2_rename 45 = .ok (.istore 5, 2) := by decide +kernel
theorem dX2_rename_47 : decode cX2_rename 47 = .ok (.iload 5, 2) := by decide +kernel
theorem dX2_rename_49 : decode cX2_rename 49 = .ok (.aload_n 0, 1) := by decide +kernel
theorem dX2_rename_5 : decode cX2_rename 5 = .ok (.getfield 55, 3) := by decide +kernel
theorem dX2_rename_50 : decode cX2_rename 50 = .ok (.getfield 9, 3) := by decide +kernel
theorem dX2_rename_53 : decode cX2_rename 53 = .ok (.if_icmp .ge 15, 3) := by decide +kernel
theorem dX2_rename_56 : decode cX2_rename 56 = .ok (.aload_n 0, 1) := by decide +kernel
theorem dX2_rename_57 : decode cX2_rename 57 = .ok (.iload 5, 2) := by decide +kernel
theorem dX2_rename_59 : decode cX2_rename 59 = .ok (.invokevirtual 58, 3) := by decide +kernel
theorem dX2_rename_62 : decode cX2_rename 62 = .ok (.iinc 5 1, 3) := by decide +kernel
theorem dX2_rename_65 : decode cX2_rename 65 = .ok (.goto (-18), 3) := by decide +kernel
theorem dX2_rename_68 : decode cX2_rename 68 = .ok (.return_, 1) := by decide +kernel
theorem dX2_rename_8 : decode cX2_rename 8 = .ok (.istore 4, 2) := by decide +kernel
set_option maxRecDepth 20000 in
theorem ggX2_rename_X2_kindOf : GoodIn wsX2_rename wsX2_kindOf := goodIn_r _ [9, 10, 27, 28, 29, 30, 31, 32, 33, 34] rfl (by decide +kernel)
set_option maxRecDepth 20000 in
theorem ggX2_rename_X2_measure : GoodIn wsX2_rename wsX2_measure := goodIn_r _ [14, 1, 15, 2, 16, 17, 3, 18, 19, 20, 21, 22, 23, 24, 25, 26, 5, 6, 7, 8, 9, 10, 27, 28, 29, 30, 31, 32, 33, 34] rfl (by decide +kernel)
set_option maxRecDepth 20000 in
theorem gX2_rename_X2_kindOf : GoodIn wsX2_rename (wsV RX2 51 RX2 yX2_kindOf wsX2_kindOf) := goodIn_app (goodIn_r _ [5, 6, 7, 8] rfl (by decide +kernel)) ggX2_rename_X2_kindOf
set_option maxRecDepth 20000 in
theorem gX2_rename_X2_measure : GoodIn wsX2_rename (wsV RX2 58 RX2 yX2_measure wsX2_measure) := goodIn_app (goodIn_r _ [11, 12, 13, 8] rfl (by decide +kernel)) ggX2_rename_X2_measure
theorem hv_X2_measure : yX2_measure.cls = RX2 ∧ yX2_measure.cls ≠ "java/lang/invoke/MethodHandle" ∧ yX2_measure.cls ≠ "java/lang/invoke/VarHandle" ∧ (parseMethodDescriptor yX2_measure.desc).map (fun d => d.parameters.length) = some 1 := by decide +kernel
set_option maxRecDepth 20000 in
theorem in_X2_rename_X2 : ∀ w ∈ wsX20, w ∈ wsX2_rename := sub_r [27, 28, 29, 30, 31, 32, 33, 34] rfl
set_option maxHeartbeats 4000000 in
set_option maxRecDepth 100000 in
theorem c_X2_rename (l : Launch) (D : va_G) (T : Nat → ClassId) (ad sa av : Nat → Nat) (ta : Nat) (sz : Nat) (h0 : Nat) (n0 : Int32) (c1 : Nat) (c2 : Nat) (c3 : Nat) (c4 : Nat) (c5 : Nat) (c6 : Nat) (c7 : Nat) (f1 : Nat → Int32) (f2 : Nat → Int32) (f3 : Nat → Int32) (f4 : Nat → Int32) (f5 : Nat → Int32) (f6 : Nat → Int32) (f7 : Nat → Int32) (x1 : Int32) (x2 : Int32) (x3 : Int32) (hx1 : 0 ≤ x1.toInt ∧ x1.toInt < 24) (hn24 : n0.toInt ≤ 24) (hok : okW x1.toNatClampNeg f1 f3 f4 f5) (hf : 1 ≤ (nmT ((f1 (x1.toNatClampNeg)).toNatClampNeg)).toInt → 0 ≤ x2.toInt ∧ x2.toInt < x1.toInt) (hs : (nmT ((f1 (x1.toNatClampNeg)).toNatClampNeg)).toInt = 2 → 0 ≤ x3.toInt ∧ x3.toInt < x1.toInt) (hme : ∀ j : Nat, (j : Int) < x1.toInt → mesP f1 f2 f3 f4 f5 f6 f7 j) : Met l yX2_rename wsX2_rename ({ frames := 2, cells := 0, slots := 0, locals := 65 }) (pWk [.ref h0, .int x1, .int x2, .int x3] D T [(h0, .inr (1, [.int n0, .ref c1, .ref c2, .ref c3, .ref c4, .ref c5, .ref c6, .ref c7])), (c1, .inl (T 0, 24, .inl f1)), (c2, .inl (T 0, 24, .inl f2)), (c3, .inl (T 0, 24, .inl f3)), (c4, .inl (T 0, 24, .inl f4)), (c5, .inl (T 0, 24, .inl f5)), (c6, .inl (T 0, 24, .inl f6)), (c7, .inl (T 0, 24, .inl f7))] sz ad sa av ta) (va_Qv (fun (u : Nat → Nat → Int32) => okC f1 (u 3) (u 4) (u 5) ∧ (u 3 = upd f3 (x1.toNatClampNeg) (if 1 ≤ (nmT ((f1 (x1.toNatClampNeg)).toNatClampNeg)).toInt then x2 else -1)) ∧ (u 4 = upd f4 (x1.toNatClampNeg) (if (nmT ((f1 (x1.toNatClampNeg)).toNatClampNeg)).toInt = 2 then x3 else -1)) ∧ ∀ j : Nat, (j : Int) < n0.toInt → mesP f1 f2 (u 3) (u 4) (u 5) (u 6) (u 7) j) (bW D (va_A [(h0, .inr (1, [.int n0, .ref c1, .ref c2, .ref c3, .ref c4, .ref c5, .ref c6, .ref c7])), (c1, .inl (T 0, 24, .inl f1)), (c2, .inl (T 0, 24, .inl f2)), (c3, .inl (T 0, 24, .inl f3)), (c4, .inl (T 0, 24, .inl f4)), (c5, .inl (T 0, 24, .inl f5)), (c6, .inl (T 0, 24, .inl f6)), (c7, .inl (T 0, 24, .inl f7))] sz) (fun (u : Nat → Nat → Int32) => [(h0, .inr (1, [.int n0, .ref c1, .ref c2, .ref c3, .ref c4, .ref c5, .ref c6, .ref c7])), (c1, .inl (T 0, 24, .inl f1)), (c2, .inl (T 0, 24, .inl f2)), (c3, .inl (T 0, 24, .inl (u 3))), (c4, .inl (T 0, 24, .inl (u 4))), (c5, .inl (T 0, 24, .inl (u 5))), (c6, .inl (T 0, 24, .inl (u 6))), (c7, .inl (T 0, 24, .inl (u 7)))])) (va_A [(h0, .inr (1, [.int n0, .ref c1, .ref c2, .ref c3, .ref c4, .ref c5, .ref c6, .ref c7])), (c1, .inl (T 0, 24, .inl f1)), (c2, .inl (T 0, 24, .inl f2)), (c3, .inl (T 0, 24, .inl f3)), (c4, .inl (T 0, 24, .inl f4)), (c5, .inl (T 0, 24, .inl f5)), (c6, .inl (T 0, 24, .inl f6)), (c7, .inl (T 0, 24, .inl f7))] sz)) 0 0 (va_A [(h0, .inr (1, [.int n0, .ref c1, .ref c2, .ref c3, .ref c4, .ref c5, .ref c6, .ref c7])), (c1, .inl (T 0, 24, .inl f1)), (c2, .inl (T 0, 24, .inl f2)), (c3, .inl (T 0, 24, .inl f3)), (c4, .inl (T 0, 24, .inl f4)), (c5, .inl (T 0, 24, .inl f5)), (c6, .inl (T 0, 24, .inl f6)), (c7, .inl (T 0, 24, .inl f7))] sz) := by
  refine Met.ofW (cc := cX2_rename) (maxL := 6) (ret := none) (by decide +kernel) rfl ?_
  intro p e s m args below meth c s₁ B hml hv
  obtain ⟨rfl, hsz, hP, hE, hD0, hV⟩ := hv
  have hx := B.exec
  have hb := B.bytes
  have hr := B.returns
  have hts := atoms_spec (ws := wsX2_rename) B.pre
  have hown : s.vm.findClass RX2 = some m.cls := findClass_of_methodNamed B.named
  have hlocks := B.notSynchronized
  subst hsz
  have hD := hD0.self (sz := s.heap.size)
  generalize hAe : va_A [(h0, .inr (1, [.int n0, .ref c1, .ref c2, .ref c3, .ref c4, .ref c5, .ref c6, .ref c7])), (c1, .inl (T 0, 24, .inl f1)), (c2, .inl (T 0, 24, .inl f2)), (c3, .inl (T 0, 24, .inl f3)), (c4, .inl (T 0, 24, .inl f4)), (c5, .inl (T 0, 24, .inl f5)), (c6, .inl (T 0, 24, .inl f6)), (c7, .inl (T 0, 24, .inl f7))] s.heap.size = A at hD hV ⊢
  have hA : ∀ q : Nat, s.heap.size ≤ q → A q := fun q h => by rw [← hAe]; exact Or.inr h
  have hS : va_S A s.heap s.heap [] := va_S.rf
  have hP : va_P D vwCl [(h0, .inr (1, [.int n0, .ref c1, .ref c2, .ref c3, .ref c4, .ref c5, .ref c6, .ref c7])), (c1, .inl (T 0, 24, .inl f1)), (c2, .inl (T 0, 24, .inl f2)), (c3, .inl (T 0, 24, .inl f3)), (c4, .inl (T 0, 24, .inl f4)), (c5, .inl (T 0, 24, .inl f5)), (c6, .inl (T 0, 24, .inl f6)), (c7, .inl (T 0, 24, .inl f7))] s.heap := hP
  have hl := lv_entry ([.ref h0, .int x1, .int x2, .int x3]) (n := 6) (Nat.le_of_ble_eq_true rfl)
  rw [lg_entry_eq]
  generalize (lg_sl ([.ref h0, .int x1, .int x2, .int x3]) ++ List.replicate (6 - (lg_sl ([.ref h0, .int x1, .int x2, .int x3])).length) Slot.unset).toArray = ls at hl ⊢
  have hl : lv_has ls 6 [(0, .ref h0), (1, .int x1), (2, .int x2), (3, .int x3)] := hl
  clear hD0
  refine lv_aload_n hx hb dX2_rename_0 rfl (lv_at hl 0 rfl) ?_
  refine lv_iload_n hx hb dX2_rename_1 rfl (lv_at hl 1 rfl) ?_
  refine va_cse (W.runV (As := [.int x1]) (rest := []) ⟨hx, hb, hml, hown, hts⟩ (c_X2_kindOf l D T ad sa av ta h0 [.int n0, .ref c1, .ref c2, .ref c3, .ref c4, .ref c5, .ref c6, .ref c7] c1 f1 x1 rfl (by omega) ((hok _ (in24 (x := x1) (by omega)).1).1)) (cwV 1 hts gX2_rename_X2_kindOf rfl rfl rfl hv_X2_kindOf ⟨Nat.le_of_ble_eq_true rfl, Nat.le_of_ble_eq_true rfl⟩) (pRk_V (q := (RX2, TX2, 8)) (ci := 1) (q0 := 0) hP hE hV hS rfl rfl [0, 1] rfl) rfl rfl hl.1 rfl (lv_room (Nat.le_of_ble_eq_true rfl)) dX2_rename_2 ⟨Nat.le_of_ble_eq_true rfl, Nat.le_of_ble_eq_true rfl⟩) (fun r_1 hr_1 => ?_)
  subst hr_1
  refine W.eq (g2 := F0 m 5 ls [.ref (ad ((f1 (x1.toNatClampNeg)).toNatClampNeg))]) rfl ?_
  refine va_getE (i := ((f1 (x1.toNatClampNeg)).toNatClampNeg)) hx hb hV.1.1 (in13c ((hok _ (in24 (x := x1) (by omega)).1).1)) hS hown (q := kdQ "names" [0, 0, 1, 1, 1, 2, 2, 2, 1, 2, 1, 1, 2]) (List.mem_of_getElem? (i := 0) rfl) (hts (.fieldLink RX2 55 "ClauseBook$Kind" "names" "I") (List.mem_of_getElem? (i := 1) rfl)) (fun _ h9 => h9) dX2_rename_5 ?_
  refine W.eq (g2 := F0 m 8 ls [.int (nmT ((f1 (x1.toNatClampNeg)).toNatClampNeg))]) rfl ?_
  refine lv_topi (fun z_2 ez_2 => ?_)
  have hnm : 0 ≤ z_2.toInt ∧ z_2.toInt ≤ 2 := by rw [ez_2]; exact nmT_in _
  refine lv_istore (lv' := [(4, .int z_2), (0, .ref h0), (1, .int x1), (2, .int x2), (3, .int x3)]) hx hb dX2_rename_8 hl (by decide +kernel) rfl (fun ls hl => ?_)
  refine lv_aload_n hx hb dX2_rename_10 rfl (lv_at hl 1 rfl) ?_
  refine va_get (D := D) (ci := 1) (v := .ref c3) (C := RX2) (T := TX2) (N := 8) hx hb hts in_X2_rename_X2 hown hE.1 hP 0 rfl rfl 3 (by decide +kernel) (hts (.fieldLink RX2 22 "ClauseBook$Clauses" "c" "[I") (List.mem_of_getElem? (i := 2) rfl)) (fun _ h9 => h9) rfl dX2_rename_11 ?_
  refine lv_iload_n hx hb dX2_rename_14 rfl (lv_at hl 2 rfl) ?_
  refine lv_iload hx hb dX2_rename_15 (lv_at hl 0 rfl) ?_
  refine lv_iconst (v := 1) hx hb dX2_rename_17 (by decide +kernel) ?_
  refine lv_icmp_lt (tgt := 25) hx hb dX2_rename_18 (by decide +kernel) (fun c_3 => ?_) (fun c_3 => ?_)
  · rw [fa_lt] at c_3
    try rw [ti_1] at c_3
    refine lv_iconst (v := (-1)) hx hb dX2_rename_25 (by decide +kernel) ?_
    refine va_iast hx hb hE.1 hP hD hS 3 0 rfl rfl (by rw [vp_in_iff]; first | omega | (subst_vars; omega)) dX2_rename_26 (fun H locs hP hD hS => ?_)
    obtain ⟨hP, hD⟩ := wPD [(h0, .inr (1, [.int n0, .ref c1, .ref c2, .ref c3, .ref c4, .ref c5, .ref c6, .ref c7])), (c1, .inl (T 0, 24, .inl f1)), (c2, .inl (T 0, 24, .inl f2)), (c3, .inl (T 0, 24, .inl (upd f3 (x1.toNatClampNeg) (-1)))), (c4, .inl (T 0, 24, .inl f4)), (c5, .inl (T 0, 24, .inl f5)), (c6, .inl (T 0, 24, .inl f6)), (c7, .inl (T 0, 24, .inl f7))] hP hD rfl
    refine lv_aload_n hx hb dX2_rename_27 rfl (lv_at hl 1 rfl) ?_
    refine va_get (D := D) (ci := 1) (v := .ref c4) (C := RX2) (T := TX2) (N := 8) hx hb hts in_X2_rename_X2 hown hE.1 hP 0 rfl rfl 4 (by decide +kernel) (hts (.fieldLink RX2 25 "ClauseBook$Clauses" "d" "[I") (List.mem_of_getElem? (i := 3) rfl)) (fun _ h9 => h9) rfl dX2_rename_28 ?_
    refine lv_iload_n hx hb dX2_rename_31 rfl (lv_at hl 2 rfl) ?_
    refine lv_iload hx hb dX2_rename_32 (lv_at hl 0 rfl) ?_
    refine lv_iconst (v := 2) hx hb dX2_rename_34 (by decide +kernel) ?_
    refine lv_icmp_ne (tgt := 42) hx hb dX2_rename_35 (by decide +kernel) (fun c_4 => ?_) (fun c_4 => ?_)
    · rw [fa_eq] at c_4
      try rw [ti_2] at c_4
      refine lv_iconst (v := (-1)) hx hb dX2_rename_42 (by decide +kernel) ?_
      refine va_iast hx hb hE.1 hP hD hS 4 0 rfl rfl (by rw [vp_in_iff]; first | omega | (subst_vars; omega)) dX2_rename_43 (fun H locs hP hD hS => ?_)
      obtain ⟨hP, hD⟩ := wPD [(h0, .inr (1, [.int n0, .ref c1, .ref c2, .ref c3, .ref c4, .ref c5, .ref c6, .ref c7])), (c1, .inl (T 0, 24, .inl f1)), (c2, .inl (T 0, 24, .inl f2)), (c3, .inl (T 0, 24, .inl (upd f3 (x1.toNatClampNeg) (-1)))), (c4, .inl (T 0, 24, .inl (upd f4 (x1.toNatClampNeg) (-1)))), (c5, .inl (T 0, 24, .inl f5)), (c6, .inl (T 0, 24, .inl f6)), (c7, .inl (T 0, 24, .inl f7))] hP hD rfl
      have hme := mes_cd (c := (-1)) (d := (-1)) (okW.N hok (by have h9 := tn hx1.1; omega)) hx1.1 hme
      have hok : okC f1 (upd f3 (x1.toNatClampNeg) (-1)) (upd f4 (x1.toNatClampNeg) (-1)) f5 := okW.C (by omega) hok (fun a => by rw [← ez_2] at a; first | exact hf (by rw [← ez_2]; omega) | (exfalso; omega)) (fun a => by rw [← ez_2] at a; first | exact hs (by rw [← ez_2]; omega) | (exfalso; omega))
      refine lv_iload_n hx hb dX2_rename_44 rfl (lv_at hl 2 rfl) ?_
      refine lv_istore (lv' := [(5, .int x1), (4, .int z_2), (0, .ref h0), (1, .int x1), (2, .int x2), (3, .int x3)]) hx hb dX2_rename_45 hl (by decide +kernel) rfl (fun ls hl => ?_)
      refine loopW (σ := (Int32) × (Nat → Int32) × (Nat → Int32) × (Nat → Int32)) (fun x9 ls H locs => lv_has ls 6 [(5, .int x9.1), (0, .ref h0), (1, .int x1), (2, .int x2), (3, .int x3), (4, .int z_2)] ∧ va_P D vwCl [(h0, .inr (1, [.int n0, .ref c1, .ref c2, .ref c3, .ref c4, .ref c5, .ref c6, .ref c7])), (c1, .inl (T 0, 24, .inl f1)), (c2, .inl (T 0, 24, .inl f2)), (c3, .inl (T 0, 24, .inl (upd f3 (x1.toNatClampNeg) (-1)))), (c4, .inl (T 0, 24, .inl (upd f4 (x1.toNatClampNeg) (-1)))), (c5, .inl (T 0, 24, .inl x9.2.1)), (c6, .inl (T 0, 24, .inl x9.2.2.1)), (c7, .inl (T 0, 24, .inl x9.2.2.2))] H ∧ va_D A [(h0, .inr (1, [.int n0, .ref c1, .ref c2, .ref c3, .ref c4, .ref c5, .ref c6, .ref c7])), (c1, .inl (T 0, 24, .inl f1)), (c2, .inl (T 0, 24, .inl f2)), (c3, .inl (T 0, 24, .inl (upd f3 (x1.toNatClampNeg) (-1)))), (c4, .inl (T 0, 24, .inl (upd f4 (x1.toNatClampNeg) (-1)))), (c5, .inl (T 0, 24, .inl x9.2.1)), (c6, .inl (T 0, 24, .inl x9.2.2.1)), (c7, .inl (T 0, 24, .inl x9.2.2.2))] ∧ va_S A s.heap H locs ∧ (0 ≤ x9.1.toInt ∧ okC f1 (upd f3 (x1.toNatClampNeg) (-1)) (upd f4 (x1.toNatClampNeg) (-1)) x9.2.1 ∧ ∀ j : Nat, (j : Int) < x9.1.toInt → mesP f1 f2 (upd f3 (x1.toNatClampNeg) (-1)) (upd f4 (x1.toNatClampNeg) (-1)) x9.2.1 x9.2.2.1 x9.2.2.2 j)) (fun x9 => (24 - x9.1.toInt).toNat) (fun x9 ls H locs hI ih => ?_) (x1, f5, f6, f7) ls ⟨lv_sub hl [0, 2, 3, 4, 5, 1] rfl, hP.sub [0, 1, 2, 3, 4, 5, 6, 7] rfl, hD.sub [0, 1, 2, 3, 4, 5, 6, 7] (by decide +kernel) rfl, hS, ⟨(by (try dsimp only); omega), hok, hme⟩⟩
      obtain ⟨ii, g5, g6, g7⟩ := x9
      obtain ⟨hl, hP, hD, hS, hinv⟩ := hI
      have hl : lv_has ls 6 [(5, .int ii), (0, .ref h0), (1, .int x1), (2, .int x2), (3, .int x3), (4, .int z_2)] := hl
      have hP : va_P D vwCl [(h0, .inr (1, [.int n0, .ref c1, .ref c2, .ref c3, .ref c4, .ref c5, .ref c6, .ref c7])), (c1, .inl (T 0, 24, .inl f1)), (c2, .inl (T 0, 24, .inl f2)), (c3, .inl (T 0, 24, .inl (upd f3 (x1.toNatClampNeg) (-1)))), (c4, .inl (T 0, 24, .inl (upd f4 (x1.toNatClampNeg) (-1)))), (c5, .inl (T 0, 24, .inl g5)), (c6, .inl (T 0, 24, .inl g6)), (c7, .inl (T 0, 24, .inl g7))] H := hP
      have hD : va_D A [(h0, .inr (1, [.int n0, .ref c1, .ref c2, .ref c3, .ref c4, .ref c5, .ref c6, .ref c7])), (c1, .inl (T 0, 24, .inl f1)), (c2, .inl (T 0, 24, .inl f2)), (c3, .inl (T 0, 24, .inl (upd f3 (x1.toNatClampNeg) (-1)))), (c4, .inl (T 0, 24, .inl (upd f4 (x1.toNatClampNeg) (-1)))), (c5, .inl (T 0, 24, .inl g5)), (c6, .inl (T 0, 24, .inl g6)), (c7, .inl (T 0, 24, .inl g7))] := hD
      have hinv : 0 ≤ ii.toInt ∧ okC f1 (upd f3 (x1.toNatClampNeg) (-1)) (upd f4 (x1.toNatClampNeg) (-1)) g5 ∧ ∀ j : Nat, (j : Int) < ii.toInt → mesP f1 f2 (upd f3 (x1.toNatClampNeg) (-1)) (upd f4 (x1.toNatClampNeg) (-1)) g5 g6 g7 j := hinv
      obtain ⟨hii, hok, hme⟩ := hinv
      refine lv_iload hx hb dX2_rename_47 (lv_at hl 0 rfl) ?_
      refine lv_aload_n hx hb dX2_rename_49 rfl (lv_at hl 1 rfl) ?_
      refine va_get (D := D) (ci := 1) (v := .int n0) (C := RX2) (T := TX2) (N := 8) hx hb hts in_X2_rename_X2 hown hE.1 hP 0 rfl rfl 0 (by decide +kernel) (hts (.fieldLink RX2 9 "ClauseBook$Clauses" "size" "I") (List.mem_of_getElem? (i := 4) rfl)) (fun _ h9 => h9) rfl dX2_rename_50 ?_
      refine lv_icmp_ge (tgt := 68) hx hb dX2_rename_53 (by decide +kernel) (fun c_5 => ?_) (fun c_5 => ?_)
      · rw [fa_le] at c_5
        exact W.vret hx hb hr (fun t ht hW => ⟨⟨(fun k => [f1, f1, f1, (upd f3 (x1.toNatClampNeg) (-1)), (upd f4 (x1.toNatClampNeg) (-1)), g5, g6, g7].getD k f1), rfl, ⟨hok, (show (upd f3 (x1.toNatClampNeg) (-1)) = upd f3 (x1.toNatClampNeg) (if 1 ≤ (nmT ((f1 (x1.toNatClampNeg)).toNatClampNeg)).toInt then x2 else -1) from (by rw [if_neg (by rw [← ez_2]; omega)])), (show (upd f4 (x1.toNatClampNeg) (-1)) = upd f4 (x1.toNatClampNeg) (if (nmT ((f1 (x1.toNatClampNeg)).toNatClampNeg)).toInt = 2 then x3 else -1) from (by rw [if_neg (by rw [← ez_2]; omega)])), (fun j hj => hme j (by omega))⟩, by rw [ht]; exact hP.sub [0, 1, 2, 3, 4, 5, 6, 7] rfl, hD.sub [0, 1, 2, 3, 4, 5, 6, 7] (by decide +kernel) rfl⟩, hS.F ht⟩) hS.2.2 dX2_rename_68
      · rw [fa_le] at c_5
        refine lv_aload_n hx hb dX2_rename_56 rfl (lv_at hl 1 rfl) ?_
        refine lv_iload hx hb dX2_rename_57 (lv_at hl 0 rfl) ?_
        have hFc := va_free (wc := [(h0, .inr (1, [.int n0, .ref c1, .ref c2, .ref c3, .ref c4, .ref c5, .ref c6, .ref c7])), (c1, .inl (T 0, 24, .inl f1)), (c2, .inl (T 0, 24, .inl f2)), (c3, .inl (T 0, 24, .inl (upd f3 (x1.toNatClampNeg) (-1)))), (c4, .inl (T 0, 24, .inl (upd f4 (x1.toNatClampNeg) (-1)))), (c5, .inl (T 0, 24, .inl g5)), (c6, .inl (T 0, 24, .inl g6)), (c7, .inl (T 0, 24, .inl g7))]) hD hS hA [0, 1, 2, 3, 4, 5, 6, 7] rfl
        refine va_callv (va_runV (As := [.int ii]) (rest := []) ⟨hx, hb, hml, hown, hts⟩ (c_X2_measure l D T ad sa av ta _ h0 n0 c1 c2 c3 c4 c5 c6 c7 f1 f2 (upd f3 (x1.toNatClampNeg) (-1)) (upd f4 (x1.toNatClampNeg) (-1)) g5 g6 g7 ii (by omega) hok) (cwV 1 hts gX2_rename_X2_measure rfl rfl rfl hv_X2_measure ⟨Nat.le_of_ble_eq_true rfl, Nat.le_of_ble_eq_true rfl⟩) (pWk_V (q := (RX2, TX2, 8)) (ci := 1) (q0 := 0) hP hE hD hV hS hFc rfl rfl [0, 1, 2, 3, 4, 5, 6, 7] (by decide +kernel) rfl rfl) rfl rfl hl.1 rfl (lv_room (Nat.le_of_ble_eq_true rfl)) dX2_rename_59 ⟨Nat.le_of_ble_eq_true rfl, Nat.le_of_ble_eq_true rfl⟩) hS (fun q _ h => hFc q h) hFc (fun u_7 t H1 locs ht hvm hr_6 hB hz1 hk1 hS => ?_)
        obtain ⟨f_8, f_9, f_10⟩ := u_7
        have hef_8 : ∀ j : Nat, j < 24 → (f_8 j).toInt ≤ 6 := hr_6.1
        have hmqf_8 : mesQ f1 f2 (upd f3 (x1.toNatClampNeg) (-1)) (upd f4 (x1.toNatClampNeg) (-1)) g5 g6 g7 ii f_8 f_9 f_10 := hr_6.2
        obtain ⟨hP1, hD1⟩ := hB
        rw [ht] at hP1
        obtain ⟨hP, hD⟩ := va_repl [(h0, .inr (1, [.int n0, .ref c1, .ref c2, .ref c3, .ref c4, .ref c5, .ref c6, .ref c7])), (c1, .inl (T 0, 24, .inl f1)), (c2, .inl (T 0, 24, .inl f2)), (c3, .inl (T 0, 24, .inl (upd f3 (x1.toNatClampNeg) (-1)))), (c4, .inl (T 0, 24, .inl (upd f4 (x1.toNatClampNeg) (-1)))), (c5, .inl (T 0, 24, .inl f_8)), (c6, .inl (T 0, 24, .inl f_9)), (c7, .inl (T 0, 24, .inl f_10))] hP hD [0, 1, 2, 3, 4, 5, 6, 7] [0, 1, 2, 3, 4, 5, 6, 7] rfl (by decide +kernel) rfl rfl rfl hk1 hP1
        clear hP1 hD1 hFc
        generalize H1 = H at hP hS ⊢
        obtain ⟨z_11, ez_11⟩ : ∃ y : Int32, y = ii + 1 := ⟨_, rfl⟩
        refine lv_iinc (v := z_11) (lv' := [(5, .int z_11), (0, .ref h0), (1, .int x1), (2, .int x2), (3, .int x3), (4, .int z_2)]) hx hb dX2_rename_62 hl (k := 0) rfl (by rw [ez_11]; rfl) (by decide +kernel) rfl (fun ls hl => ?_)
        refine lv_goto (tgt := 47) hx hb dX2_rename_65 (by decide +kernel) ?_
        exact ih (z_11, f_8, f_9, f_10) ls _ _ ⟨lv_sub hl [0, 1, 2, 3, 4, 5] rfl, hP.sub [0, 1, 2, 3, 4, 5, 6, 7] rfl, hD.sub [0, 1, 2, 3, 4, 5, 6, 7] (by decide +kernel) rfl, hS, ⟨(by subst_vars; (try dsimp only); rw [inc1 (n := 24) (by omega) (by decide +kernel)]; omega), okC.ends hok hef_8, mes_loop hok (by omega) (by rw [ez_11]; exact inc1 (n := 24) (by omega) (by decide +kernel)) hme hmqf_8⟩⟩ (by subst_vars; (try dsimp only); rw [inc1 (n := 24) (by omega) (by decide +kernel)]; omega)
    · rw [fa_eq] at c_4
      try rw [ti_2] at c_4
      refine lv_iload_n hx hb dX2_rename_38 rfl (lv_at hl 4 rfl) ?_
      refine lv_goto (tgt := 43) hx hb dX2_rename_39 (by decide +kernel) ?_
      refine va_iast hx hb hE.1 hP hD hS 4 0 rfl rfl (by rw [vp_in_iff]; first | omega | (subst_vars; omega)) dX2_rename_43 (fun H locs hP hD hS => ?_)
      obtain ⟨hP, hD⟩ := wPD [(h0, .inr (1, [.int n0, .ref c1, .ref c2, .ref c3, .ref c4, .ref c5, .ref c6, .ref c7])), (c1, .inl (T 0, 24, .inl f1)), (c2, .inl (T 0, 24, .inl f2)), (c3, .inl (T 0, 24, .inl (upd f3 (x1.toNatClampNeg) (-1)))), (c4, .inl (T 0, 24, .inl (upd f4 (x1.toNatClampNeg) x3))), (c5, .inl (T 0, 24, .inl f5)), (c6, .inl (T 0, 24, .inl f6)), (c7, .inl (T 0, 24, .inl f7))] hP hD rfl
      have hme := mes_cd (c := (-1)) (d := x3) (okW.N hok (by have h9 := tn hx1.1; omega)) hx1.1 hme
      have hok : okC f1 (upd f3 (x1.toNatClampNeg) (-1)) (upd f4 (x1.toNatClampNeg) x3) f5 := okW.C (by omega) hok (fun a => by rw [← ez_2] at a; first | exact hf (by rw [← ez_2]; omega) | (exfalso; omega)) (fun a => by rw [← ez_2] at a; first | exact hs (by rw [← ez_2]; omega) | (exfalso; omega))
      refine lv_iload_n hx hb dX2_rename_44 rfl (lv_at hl 2 rfl) ?_
      refine lv_istore (lv' := [(5, .int x1), (4, .int z_2), (0, .ref h0), (1, .int x1), (2, .int x2), (3, .int x3)]) hx hb dX2_rename_45 hl (by decide +kernel) rfl (fun ls hl => ?_)
      refine loopW (σ := (Int32) × (Nat → Int32) × (Nat → Int32) × (Nat → Int32)) (fun x9 ls H locs => lv_has ls 6 [(5, .int x9.1), (0, .ref h0), (1, .int x1), (2, .int x2), (3, .int x3), (4, .int z_2)] ∧ va_P D vwCl [(h0, .inr (1, [.int n0, .ref c1, .ref c2, .ref c3, .ref c4, .ref c5, .ref c6, .ref c7])), (c1, .inl (T 0, 24, .inl f1)), (c2, .inl (T 0, 24, .inl f2)), (c3, .inl (T 0, 24, .inl (upd f3 (x1.toNatClampNeg) (-1)))), (c4, .inl (T 0, 24, .inl (upd f4 (x1.toNatClampNeg) x3))), (c5, .inl (T 0, 24, .inl x9.2.1)), (c6, .inl (T 0, 24, .inl x9.2.2.1)), (c7, .inl (T 0, 24, .inl x9.2.2.2))] H ∧ va_D A [(h0, .inr (1, [.int n0, .ref c1, .ref c2, .ref c3, .ref c4, .ref c5, .ref c6, .ref c7])), (c1, .inl (T 0, 24, .inl f1)), (c2, .inl (T 0, 24, .inl f2)), (c3, .inl (T 0, 24, .inl (upd f3 (x1.toNatClampNeg) (-1)))), (c4, .inl (T 0, 24, .inl (upd f4 (x1.toNatClampNeg) x3))), (c5, .inl (T 0, 24, .inl x9.2.1)), (c6, .inl (T 0, 24, .inl x9.2.2.1)), (c7, .inl (T 0, 24, .inl x9.2.2.2))] ∧ va_S A s.heap H locs ∧ (0 ≤ x9.1.toInt ∧ okC f1 (upd f3 (x1.toNatClampNeg) (-1)) (upd f4 (x1.toNatClampNeg) x3) x9.2.1 ∧ ∀ j : Nat, (j : Int) < x9.1.toInt → mesP f1 f2 (upd f3 (x1.toNatClampNeg) (-1)) (upd f4 (x1.toNatClampNeg) x3) x9.2.1 x9.2.2.1 x9.2.2.2 j)) (fun x9 => (24 - x9.1.toInt).toNat) (fun x9 ls H locs hI ih => ?_) (x1, f5, f6, f7) ls ⟨lv_sub hl [0, 2, 3, 4, 5, 1] rfl, hP.sub [0, 1, 2, 3, 4, 5, 6, 7] rfl, hD.sub [0, 1, 2, 3, 4, 5, 6, 7] (by decide +kernel) rfl, hS, ⟨(by (try dsimp only); omega), hok, hme⟩⟩
      obtain ⟨ii, g5, g6, g7⟩ := x9
      obtain ⟨hl, hP, hD, hS, hinv⟩ := hI
      have hl : lv_has ls 6 [(5, .int ii), (0, .ref h0), (1, .int x1), (2, .int x2), (3, .int x3), (4, .int z_2)] := hl
      have hP : va_P D vwCl [(h0, .inr (1, [.int n0, .ref c1, .ref c2, .ref c3, .ref c4, .ref c5, .ref c6, .ref c7])), (c1, .inl (T 0, 24, .inl f1)), (c2, .inl (T 0, 24, .inl f2)), (c3, .inl (T 0, 24, .inl (upd f3 (x1.toNatClampNeg) (-1)))), (c4, .inl (T 0, 24, .inl (upd f4 (x1.toNatClampNeg) x3))), (c5, .inl (T 0, 24, .inl g5)), (c6, .inl (T 0, 24, .inl g6)), (c7, .inl (T 0, 24, .inl g7))] H := hP
      have hD : va_D A [(h0, .inr (1, [.int n0, .ref c1, .ref c2, .ref c3, .ref c4, .ref c5, .ref c6, .ref c7])), (c1, .inl (T 0, 24, .inl f1)), (c2, .inl (T 0, 24, .inl f2)), (c3, .inl (T 0, 24, .inl (upd f3 (x1.toNatClampNeg) (-1)))), (c4, .inl (T 0, 24, .inl (upd f4 (x1.toNatClampNeg) x3))), (c5, .inl (T 0, 24, .inl g5)), (c6, .inl (T 0, 24, .inl g6)), (c7, .inl (T 0, 24, .inl g7))] := hD
      have hinv : 0 ≤ ii.toInt ∧ okC f1 (upd f3 (x1.toNatClampNeg) (-1)) (upd f4 (x1.toNatClampNeg) x3) g5 ∧ ∀ j : Nat, (j : Int) < ii.toInt → mesP f1 f2 (upd f3 (x1.toNatClampNeg) (-1)) (upd f4 (x1.toNatClampNeg) x3) g5 g6 g7 j := hinv
      obtain ⟨hii, hok, hme⟩ := hinv
      refine lv_iload hx hb dX2_rename_47 (lv_at hl 0 rfl) ?_
      refine lv_aload_n hx hb dX2_rename_49 rfl (lv_at hl 1 rfl) ?_
      refine va_get (D := D) (ci := 1) (v := .int n0) (C := RX2) (T := TX2) (N := 8) hx hb hts in_X2_rename_X2 hown hE.1 hP 0 rfl rfl 0 (by decide +kernel) (hts (.fieldLink RX2 9 "ClauseBook$Clauses" "size" "I") (List.mem_of_getElem? (i := 4) rfl)) (fun _ h9 => h9) rfl dX2_rename_50 ?_
      refine lv_icmp_ge (tgt := 68) hx hb dX2_rename_53 (by decide +kernel) (fun c_12 => ?_) (fun c_12 => ?_)
      · rw [fa_le] at c_12
        exact W.vret hx hb hr (fun t ht hW => ⟨⟨(fun k => [f1, f1, f1, (upd f3 (x1.toNatClampNeg) (-1)), (upd f4 (x1.toNatClampNeg) x3), g5, g6, g7].getD k f1), rfl, ⟨hok, (show (upd f3 (x1.toNatClampNeg) (-1)) = upd f3 (x1.toNatClampNeg) (if 1 ≤ (nmT ((f1 (x1.toNatClampNeg)).toNatClampNeg)).toInt then x2 else -1) from (by rw [if_neg (by rw [← ez_2]; omega)])), (show (upd f4 (x1.toNatClampNeg) x3) = upd f4 (x1.toNatClampNeg) (if (nmT ((f1 (x1.toNatClampNeg)).toNatClampNeg)).toInt = 2 then x3 else -1) from (by rw [if_pos (by rw [← ez_2]; omega)])), (fun j hj => hme j (by omega))⟩, by rw [ht]; exact hP.sub [0, 1, 2, 3, 4, 5, 6, 7] rfl, hD.sub [0, 1, 2, 3, 4, 5, 6, 7] (by decide +kernel) rfl⟩, hS.F ht⟩) hS.2.2 dX2_rename_68
      · rw [fa_le] at c_12
        refine lv_aload_n hx hb dX2_rename_56 rfl (lv_at hl 1 rfl) ?_
        refine lv_iload hx hb dX2_rename_57 (lv_at hl 0 rfl) ?_
        have hFc := va_free (wc := [(h0, .inr (1, [.int n0, .ref c1, .ref c2, .ref c3, .ref c4, .ref c5, .ref c6, .ref c7])), (c1, .inl (T 0, 24, .inl f1)), (c2, .inl (T 0, 24, .inl f2)), (c3, .inl (T 0, 24, .inl (upd f3 (x1.toNatClampNeg) (-1)))), (c4, .inl (T 0, 24, .inl (upd f4 (x1.toNatClampNeg) x3))), (c5, .inl (T 0, 24, .inl g5)), (c6, .inl (T 0, 24, .inl g6)), (c7, .inl (T 0, 24, .inl g7))]) hD hS hA [0, 1, 2, 3, 4, 5, 6, 7] rfl
        refine va_callv (va_runV (As := [.int ii]) (rest := []) ⟨hx, hb, hml, hown, hts⟩ (c_X2_measure l D T ad sa av ta _ h0 n0 c1 c2 c3 c4 c5 c6 c7 f1 f2 (upd f3 (x1.toNatClampNeg) (-1)) (upd f4 (x1.toNatClampNeg) x3) g5 g6 g7 ii (by omega) hok) (cwV 1 hts gX2_rename_X2_measure rfl rfl rfl hv_X2_measure ⟨Nat.le_of_ble_eq_true rfl, Nat.le_of_ble_eq_true rfl⟩) (pWk_V (q := (RX2, TX2, 8)) (ci := 1) (q0 := 0) hP hE hD hV hS hFc rfl rfl [0, 1, 2, 3, 4, 5, 6, 7] (by decide +kernel) rfl rfl) rfl rfl hl.1 rfl (lv_room (Nat.le_of_ble_eq_true rfl)) dX2_rename_59 ⟨Nat.le_of_ble_eq_true rfl, Nat.le_of_ble_eq_true rfl⟩) hS (fun q _ h => hFc q h) hFc (fun u_14 t H1 locs ht hvm hr_13 hB hz1 hk1 hS => ?_)
        obtain ⟨f_15, f_16, f_17⟩ := u_14
        have hef_15 : ∀ j : Nat, j < 24 → (f_15 j).toInt ≤ 6 := hr_13.1
        have hmqf_15 : mesQ f1 f2 (upd f3 (x1.toNatClampNeg) (-1)) (upd f4 (x1.toNatClampNeg) x3) g5 g6 g7 ii f_15 f_16 f_17 := hr_13.2
        obtain ⟨hP1, hD1⟩ := hB
        rw [ht] at hP1
        obtain ⟨hP, hD⟩ := va_repl [(h0, .inr (1, [.int n0, .ref c1, .ref c2, .ref c3, .ref c4, .ref c5, .ref c6, .ref c7])), (c1, .inl (T 0, 24, .inl f1)), (c2, .inl (T 0, 24, .inl f2)), (c3, .inl (T 0, 24, .inl (upd f3 (x1.toNatClampNeg) (-1)))), (c4, .inl (T 0, 24, .inl (upd f4 (x1.toNatClampNeg) x3))), (c5, .inl (T 0, 24, .inl f_15)), (c6, .inl (T 0, 24, .inl f_16)), (c7, .inl (T 0, 24, .inl f_17))] hP hD [0, 1, 2, 3, 4, 5, 6, 7] [0, 1, 2, 3, 4, 5, 6, 7] rfl (by decide +kernel) rfl rfl rfl hk1 hP1
        clear hP1 hD1 hFc
        generalize H1 = H at hP hS ⊢
        obtain ⟨z_18, ez_18⟩ : ∃ y : Int32, y = ii + 1 := ⟨_, rfl⟩
        refine lv_iinc (v := z_18) (lv' := [(5, .int z_18), (0, .ref h0), (1, .int x1), (2, .int x2), (3, .int x3), (4, .int z_2)]) hx hb dX2_rename_62 hl (k := 0) rfl (by rw [ez_18]; rfl) (by decide +kernel) rfl (fun ls hl => ?_)
        refine lv_goto (tgt := 47) hx hb dX2_rename_65 (by decide +kernel) ?_
        exact ih (z_18, f_15, f_16, f_17) ls _ _ ⟨lv_sub hl [0, 1, 2, 3, 4, 5] rfl, hP.sub [0, 1, 2, 3, 4, 5, 6, 7] rfl, hD.sub [0, 1, 2, 3, 4, 5, 6, 7] (by decide +kernel) rfl, hS, ⟨(by subst_vars; (try dsimp only); rw [inc1 (n := 24) (by omega) (by decide +kernel)]; omega), okC.ends hok hef_15, mes_loop hok (by omega) (by rw [ez_18]; exact inc1 (n := 24) (by omega) (by decide +kernel)) hme hmqf_15⟩⟩ (by subst_vars; (try dsimp only); rw [inc1 (n := 24) (by omega) (by decide +kernel)]; omega)
  · rw [fa_lt] at c_3
    try rw [ti_1] at c_3
    refine lv_iload_n hx hb dX2_rename_21 rfl (lv_at hl 3 rfl) ?_
    refine lv_goto (tgt := 26) hx hb dX2_rename_22 (by decide +kernel) ?_
    refine va_iast hx hb hE.1 hP hD hS 3 0 rfl rfl (by rw [vp_in_iff]; first | omega | (subst_vars; omega)) dX2_rename_26 (fun H locs hP hD hS => ?_)
    obtain ⟨hP, hD⟩ := wPD [(h0, .inr (1, [.int n0, .ref c1, .ref c2, .ref c3, .ref c4, .ref c5, .ref c6, .ref c7])), (c1, .inl (T 0, 24, .inl f1)), (c2, .inl (T 0, 24, .inl f2)), (c3, .inl (T 0, 24, .inl (upd f3 (x1.toNatClampNeg) x2))), (c4, .inl (T 0, 24, .inl f4)), (c5, .inl (T 0, 24, .inl f5)), (c6, .inl (T 0, 24, .inl f6)), (c7, .inl (T 0, 24, .inl f7))] hP hD rfl
    refine lv_aload_n hx hb dX2_rename_27 rfl (lv_at hl 1 rfl) ?_
    refine va_get (D := D) (ci := 1) (v := .ref c4) (C := RX2) (T := TX2) (N := 8) hx hb hts in_X2_rename_X2 hown hE.1 hP 0 rfl rfl 4 (by decide +kernel) (hts (.fieldLink RX2 25 "ClauseBook$Clauses" "d" "[I") (List.mem_of_getElem? (i := 3) rfl)) (fun _ h9 => h9) rfl dX2_rename_28 ?_
    refine lv_iload_n hx hb dX2_rename_31 rfl (lv_at hl 2 rfl) ?_
    refine lv_iload hx hb dX2_rename_32 (lv_at hl 0 rfl) ?_
    refine lv_iconst (v := 2) hx hb dX2_rename_34 (by decide +kernel) ?_
    refine lv_icmp_ne (tgt := 42) hx hb dX2_rename_35 (by decide +kernel) (fun c_19 => ?_) (fun c_19 => ?_)
    · rw [fa_eq] at c_19
      try rw [ti_2] at c_19
      refine lv_iconst (v := (-1)) hx hb dX2_rename_42 (by decide +kernel) ?_
      refine va_iast hx hb hE.1 hP hD hS 4 0 rfl rfl (by rw [vp_in_iff]; first | omega | (subst_vars; omega)) dX2_rename_43 (fun H locs hP hD hS => ?_)
      obtain ⟨hP, hD⟩ := wPD [(h0, .inr (1, [.int n0, .ref c1, .ref c2, .ref c3, .ref c4, .ref c5, .ref c6, .ref c7])), (c1, .inl (T 0, 24, .inl f1)), (c2, .inl (T 0, 24, .inl f2)), (c3, .inl (T 0, 24, .inl (upd f3 (x1.toNatClampNeg) x2))), (c4, .inl (T 0, 24, .inl (upd f4 (x1.toNatClampNeg) (-1)))), (c5, .inl (T 0, 24, .inl f5)), (c6, .inl (T 0, 24, .inl f6)), (c7, .inl (T 0, 24, .inl f7))] hP hD rfl
      have hme := mes_cd (c := x2) (d := (-1)) (okW.N hok (by have h9 := tn hx1.1; omega)) hx1.1 hme
      have hok : okC f1 (upd f3 (x1.toNatClampNeg) x2) (upd f4 (x1.toNatClampNeg) (-1)) f5 := okW.C (by omega) hok (fun a => by rw [← ez_2] at a; first | exact hf (by rw [← ez_2]; omega) | (exfalso; omega)) (fun a => by rw [← ez_2] at a; first | exact hs (by rw [← ez_2]; omega) | (exfalso; omega))
      refine lv_iload_n hx hb dX2_rename_44 rfl (lv_at hl 2 rfl) ?_
      refine lv_istore (lv' := [(5, .int x1), (4, .int z_2), (0, .ref h0), (1, .int x1), (2, .int x2), (3, .int x3)]) hx hb dX2_rename_45 hl (by decide +kernel) rfl (fun ls hl => ?_)
      refine loopW (σ := (Int32) × (Nat → Int32) × (Nat → Int32) × (Nat → Int32)) (fun x9 ls H locs => lv_has ls 6 [(5, .int x9.1), (0, .ref h0), (1, .int x1), (2, .int x2), (3, .int x3), (4, .int z_2)] ∧ va_P D vwCl [(h0, .inr (1, [.int n0, .ref c1, .ref c2, .ref c3, .ref c4, .ref c5, .ref c6, .ref c7])), (c1, .inl (T 0, 24, .inl f1)), (c2, .inl (T 0, 24, .inl f2)), (c3, .inl (T 0, 24, .inl (upd f3 (x1.toNatClampNeg) x2))), (c4, .inl (T 0, 24, .inl (upd f4 (x1.toNatClampNeg) (-1)))), (c5, .inl (T 0, 24, .inl x9.2.1)), (c6, .inl (T 0, 24, .inl x9.2.2.1)), (c7, .inl (T 0, 24, .inl x9.2.2.2))] H ∧ va_D A [(h0, .inr (1, [.int n0, .ref c1, .ref c2, .ref c3, .ref c4, .ref c5, .ref c6, .ref c7])), (c1, .inl (T 0, 24, .inl f1)), (c2, .inl (T 0, 24, .inl f2)), (c3, .inl (T 0, 24, .inl (upd f3 (x1.toNatClampNeg) x2))), (c4, .inl (T 0, 24, .inl (upd f4 (x1.toNatClampNeg) (-1)))), (c5, .inl (T 0, 24, .inl x9.2.1)), (c6, .inl (T 0, 24, .inl x9.2.2.1)), (c7, .inl (T 0, 24, .inl x9.2.2.2))] ∧ va_S A s.heap H locs ∧ (0 ≤ x9.1.toInt ∧ okC f1 (upd f3 (x1.toNatClampNeg) x2) (upd f4 (x1.toNatClampNeg) (-1)) x9.2.1 ∧ ∀ j : Nat, (j : Int) < x9.1.toInt → mesP f1 f2 (upd f3 (x1.toNatClampNeg) x2) (upd f4 (x1.toNatClampNeg) (-1)) x9.2.1 x9.2.2.1 x9.2.2.2 j)) (fun x9 => (24 - x9.1.toInt).toNat) (fun x9 ls H locs hI ih => ?_) (x1, f5, f6, f7) ls ⟨lv_sub hl [0, 2, 3, 4, 5, 1] rfl, hP.sub [0, 1, 2, 3, 4, 5, 6, 7] rfl, hD.sub [0, 1, 2, 3, 4, 5, 6, 7] (by decide +kernel) rfl, hS, ⟨(by (try dsimp only); omega), hok, hme⟩⟩
      obtain ⟨ii, g5, g6, g7⟩ := x9
      obtain ⟨hl, hP, hD, hS, hinv⟩ := hI
      have hl : lv_has ls 6 [(5, .int ii), (0, .ref h0), (1, .int x1), (2, .int x2), (3, .int x3), (4, .int z_2)] := hl
      have hP : va_P D vwCl [(h0, .inr (1, [.int n0, .ref c1, .ref c2, .ref c3, .ref c4, .ref c5, .ref c6, .ref c7])), (c1, .inl (T 0, 24, .inl f1)), (c2, .inl (T 0, 24, .inl f2)), (c3, .inl (T 0, 24, .inl (upd f3 (x1.toNatClampNeg) x2))), (c4, .inl (T 0, 24, .inl (upd f4 (x1.toNatClampNeg) (-1)))), (c5, .inl (T 0, 24, .inl g5)), (c6, .inl (T 0, 24, .inl g6)), (c7, .inl (T 0, 24, .inl g7))] H := hP
      have hD : va_D A [(h0, .inr (1, [.int n0, .ref c1, .ref c2, .ref c3, .ref c4, .ref c5, .ref c6, .ref c7])), (c1, .inl (T 0, 24, .inl f1)), (c2, .inl (T 0, 24, .inl f2)), (c3, .inl (T 0, 24, .inl (upd f3 (x1.toNatClampNeg) x2))), (c4, .inl (T 0, 24, .inl (upd f4 (x1.toNatClampNeg) (-1)))), (c5, .inl (T 0, 24, .inl g5)), (c6, .inl (T 0, 24, .inl g6)), (c7, .inl (T 0, 24, .inl g7))] := hD
      have hinv : 0 ≤ ii.toInt ∧ okC f1 (upd f3 (x1.toNatClampNeg) x2) (upd f4 (x1.toNatClampNeg) (-1)) g5 ∧ ∀ j : Nat, (j : Int) < ii.toInt → mesP f1 f2 (upd f3 (x1.toNatClampNeg) x2) (upd f4 (x1.toNatClampNeg) (-1)) g5 g6 g7 j := hinv
      obtain ⟨hii, hok, hme⟩ := hinv
      refine lv_iload hx hb dX2_rename_47 (lv_at hl 0 rfl) ?_
      refine lv_aload_n hx hb dX2_rename_49 rfl (lv_at hl 1 rfl) ?_
      refine va_get (D := D) (ci := 1) (v := .int n0) (C := RX2) (T := TX2) (N := 8) hx hb hts in_X2_rename_X2 hown hE.1 hP 0 rfl rfl 0 (by decide +kernel) (hts (.fieldLink RX2 9 "ClauseBook$Clauses" "size" "I") (List.mem_of_getElem? (i := 4) rfl)) (fun _ h9 => h9) rfl dX2_rename_50 ?_
      refine lv_icmp_ge (tgt := 68) hx hb dX2_rename_53 (by decide +kernel) (fun c_20 => ?_) (fun c_20 => ?_)
      · rw [fa_le] at c_20
        exact W.vret hx hb hr (fun t ht hW => ⟨⟨(fun k => [f1, f1, f1, (upd f3 (x1.toNatClampNeg) x2), (upd f4 (x1.toNatClampNeg) (-1)), g5, g6, g7].getD k f1), rfl, ⟨hok, (show (upd f3 (x1.toNatClampNeg) x2) = upd f3 (x1.toNatClampNeg) (if 1 ≤ (nmT ((f1 (x1.toNatClampNeg)).toNatClampNeg)).toInt then x2 else -1) from (by rw [if_pos (by rw [← ez_2]; omega)])), (show (upd f4 (x1.toNatClampNeg) (-1)) = upd f4 (x1.toNatClampNeg) (if (nmT ((f1 (x1.toNatClampNeg)).toNatClampNeg)).toInt = 2 then x3 else -1) from (by rw [if_neg (by rw [← ez_2]; omega)])), (fun j hj => hme j (by omega))⟩, by rw [ht]; exact hP.sub [0, 1, 2, 3, 4, 5, 6, 7] rfl, hD.sub [0, 1, 2, 3, 4, 5, 6, 7] (by decide +kernel) rfl⟩, hS.F ht⟩) hS.2.2 dX2_rename_68
      · rw [fa_le] at c_20
        refine lv_aload_n hx hb dX2_rename_56 rfl (lv_at hl 1 rfl) ?_
        refine lv_iload hx hb dX2_rename_57 (lv_at hl 0 rfl) ?_
        have hFc := va_free (wc := [(h0, .inr (1, [.int n0, .ref c1, .ref c2, .ref c3, .ref c4, .ref c5, .ref c6, .ref c7])), (c1, .inl (T 0, 24, .inl f1)), (c2, .inl (T 0, 24, .inl f2)), (c3, .inl (T 0, 24, .inl (upd f3 (x1.toNatClampNeg) x2))), (c4, .inl (T 0, 24, .inl (upd f4 (x1.toNatClampNeg) (-1)))), (c5, .inl (T 0, 24, .inl g5)), (c6, .inl (T 0, 24, .inl g6)), (c7, .inl (T 0, 24, .inl g7))]) hD hS hA [0, 1, 2, 3, 4, 5, 6, 7] rfl
        refine va_callv (va_runV (As := [.int ii]) (rest := []) ⟨hx, hb, hml, hown, hts⟩ (c_X2_measure l D T ad sa av ta _ h0 n0 c1 c2 c3 c4 c5 c6 c7 f1 f2 (upd f3 (x1.toNatClampNeg) x2) (upd f4 (x1.toNatClampNeg) (-1)) g5 g6 g7 ii (by omega) hok) (cwV 1 hts gX2_rename_X2_measure rfl rfl rfl hv_X2_measure ⟨Nat.le_of_ble_eq_true rfl, Nat.le_of_ble_eq_true rfl⟩) (pWk_V (q := (RX2, TX2, 8)) (ci := 1) (q0 := 0) hP hE hD hV hS hFc rfl rfl [0, 1, 2, 3, 4, 5, 6, 7] (by decide +kernel) rfl rfl) rfl rfl hl.1 rfl (lv_room (Nat.le_of_ble_eq_true rfl)) dX2_rename_59 ⟨Nat.le_of_ble_eq_true rfl, Nat.le_of_ble_eq_true rfl⟩) hS (fun q _ h => hFc q h) hFc (fun u_22 t H1 locs ht hvm hr_21 hB hz1 hk1 hS => ?_)
        obtain ⟨f_23, f_24, f_25⟩ := u_22
        have hef_23 : ∀ j : Nat, j < 24 → (f_23 j).toInt ≤ 6 := hr_21.1
        have hmqf_23 : mesQ f1 f2 (upd f3 (x1.toNatClampNeg) x2) (upd f4 (x1.toNatClampNeg) (-1)) g5 g6 g7 ii f_23 f_24 f_25 := hr_21.2
        obtain ⟨hP1, hD1⟩ := hB
        rw [ht] at hP1
        obtain ⟨hP, hD⟩ := va_repl [(h0, .inr (1, [.int n0, .ref c1, .ref c2, .ref c3, .ref c4, .ref c5, .ref c6, .ref c7])), (c1, .inl (T 0, 24, .inl f1)), (c2, .inl (T 0, 24, .inl f2)), (c3, .inl (T 0, 24, .inl (upd f3 (x1.toNatClampNeg) x2))), (c4, .inl (T 0, 24, .inl (upd f4 (x1.toNatClampNeg) (-1)))), (c5, .inl (T 0, 24, .inl f_23)), (c6, .inl (T 0, 24, .inl f_24)), (c7, .inl (T 0, 24, .inl f_25))] hP hD [0, 1, 2, 3, 4, 5, 6, 7] [0, 1, 2, 3, 4, 5, 6, 7] rfl (by decide +kernel) rfl rfl rfl hk1 hP1
        clear hP1 hD1 hFc
        generalize H1 = H at hP hS ⊢
        obtain ⟨z_26, ez_26⟩ : ∃ y : Int32, y = ii + 1 := ⟨_, rfl⟩
        refine lv_iinc (v := z_26) (lv' := [(5, .int z_26), (0, .ref h0), (1, .int x1), (2, .int x2), (3, .int x3), (4, .int z_2)]) hx hb dX2_rename_62 hl (k := 0) rfl (by rw [ez_26]; rfl) (by decide +kernel) rfl (fun ls hl => ?_)
        refine lv_goto (tgt := 47) hx hb dX2_rename_65 (by decide +kernel) ?_
        exact ih (z_26, f_23, f_24, f_25) ls _ _ ⟨lv_sub hl [0, 1, 2, 3, 4, 5] rfl, hP.sub [0, 1, 2, 3, 4, 5, 6, 7] rfl, hD.sub [0, 1, 2, 3, 4, 5, 6, 7] (by decide +kernel) rfl, hS, ⟨(by subst_vars; (try dsimp only); rw [inc1 (n := 24) (by omega) (by decide +kernel)]; omega), okC.ends hok hef_23, mes_loop hok (by omega) (by rw [ez_26]; exact inc1 (n := 24) (by omega) (by decide +kernel)) hme hmqf_23⟩⟩ (by subst_vars; (try dsimp only); rw [inc1 (n := 24) (by omega) (by decide +kernel)]; omega)
    · rw [fa_eq] at c_19
      try rw [ti_2] at c_19
      refine lv_iload_n hx hb dX2_rename_38 rfl (lv_at hl 4 rfl) ?_
      refine lv_goto (tgt := 43) hx hb dX2_rename_39 (by decide +kernel) ?_
      refine va_iast hx hb hE.1 hP hD hS 4 0 rfl rfl (by rw [vp_in_iff]; first | omega | (subst_vars; omega)) dX2_rename_43 (fun H locs hP hD hS => ?_)
      obtain ⟨hP, hD⟩ := wPD [(h0, .inr (1, [.int n0, .ref c1, .ref c2, .ref c3, .ref c4, .ref c5, .ref c6, .ref c7])), (c1, .inl (T 0, 24, .inl f1)), (c2, .inl (T 0, 24, .inl f2)), (c3, .inl (T 0, 24, .inl (upd f3 (x1.toNatClampNeg) x2))), (c4, .inl (T 0, 24, .inl (upd f4 (x1.toNatClampNeg) x3))), (c5, .inl (T 0, 24, .inl f5)), (c6, .inl (T 0, 24, .inl f6)), (c7, .inl (T 0, 24, .inl f7))] hP hD rfl
      have hme := mes_cd (c := x2) (d := x3) (okW.N hok (by have h9 := tn hx1.1; omega)) hx1.1 hme
      have hok : okC f1 (upd f3 (x1.toNatClampNeg) x2) (upd f4 (x1.toNatClampNeg) x3) f5 := okW.C (by omega) hok (fun a => by rw [← ez_2] at a; first | exact hf (by rw [← ez_2]; omega) | (exfalso; omega)) (fun a => by rw [← ez_2] at a; first | exact hs (by rw [← ez_2]; omega) | (exfalso; omega))
      refine lv_iload_n hx hb dX2_rename_44 rfl (lv_at hl 2 rfl) ?_
      refine lv_istore (lv' := [(5, .int x1), (4, .int z_2), (0, .ref h0), (1, .int x1), (2, .int x2), (3, .int x3)]) hx hb dX2_rename_45 hl (by decide +kernel) rfl (fun ls hl => ?_)
      refine loopW (σ := (Int32) × (Nat → Int32) × (Nat → Int32) × (Nat → Int32)) (fun x9 ls H locs => lv_has ls 6 [(5, .int x9.1), (0, .ref h0), (1, .int x1), (2, .int x2), (3, .int x3), (4, .int z_2)] ∧ va_P D vwCl [(h0, .inr (1, [.int n0, .ref c1, .ref c2, .ref c3, .ref c4, .ref c5, .ref c6, .ref c7])), (c1, .inl (T 0, 24, .inl f1)), (c2, .inl (T 0, 24, .inl f2)), (c3, .inl (T 0, 24, .inl (upd f3 (x1.toNatClampNeg) x2))), (c4, .inl (T 0, 24, .inl (upd f4 (x1.toNatClampNeg) x3))), (c5, .inl (T 0, 24, .inl x9.2.1)), (c6, .inl (T 0, 24, .inl x9.2.2.1)), (c7, .inl (T 0, 24, .inl x9.2.2.2))] H ∧ va_D A [(h0, .inr (1, [.int n0, .ref c1, .ref c2, .ref c3, .ref c4, .ref c5, .ref c6, .ref c7])), (c1, .inl (T 0, 24, .inl f1)), (c2, .inl (T 0, 24, .inl f2)), (c3, .inl (T 0, 24, .inl (upd f3 (x1.toNatClampNeg) x2))), (c4, .inl (T 0, 24, .inl (upd f4 (x1.toNatClampNeg) x3))), (c5, .inl (T 0, 24, .inl x9.2.1)), (c6, .inl (T 0, 24, .inl x9.2.2.1)), (c7, .inl (T 0, 24, .inl x9.2.2.2))] ∧ va_S A s.heap H locs ∧ (0 ≤ x9.1.toInt ∧ okC f1 (upd f3 (x1.toNatClampNeg) x2) (upd f4 (x1.toNatClampNeg) x3) x9.2.1 ∧ ∀ j : Nat, (j : Int) < x9.1.toInt → mesP f1 f2 (upd f3 (x1.toNatClampNeg) x2) (upd f4 (x1.toNatClampNeg) x3) x9.2.1 x9.2.2.1 x9.2.2.2 j)) (fun x9 => (24 - x9.1.toInt).toNat) (fun x9 ls H locs hI ih => ?_) (x1, f5, f6, f7) ls ⟨lv_sub hl [0, 2, 3, 4, 5, 1] rfl, hP.sub [0, 1, 2, 3, 4, 5, 6, 7] rfl, hD.sub [0, 1, 2, 3, 4, 5, 6, 7] (by decide +kernel) rfl, hS, ⟨(by (try dsimp only); omega), hok, hme⟩⟩
      obtain ⟨ii, g5, g6, g7⟩ := x9
      obtain ⟨hl, hP, hD, hS, hinv⟩ := hI
      have hl : lv_has ls 6 [(5, .int ii), (0, .ref h0), (1, .int x1), (2, .int x2), (3, .int x3), (4, .int z_2)] := hl
      have hP : va_P D vwCl [(h0, .inr (1, [.int n0, .ref c1, .ref c2, .ref c3, .ref c4, .ref c5, .ref c6, .ref c7])), (c1, .inl (T 0, 24, .inl f1)), (c2, .inl (T 0, 24, .inl f2)), (c3, .inl (T 0, 24, .inl (upd f3 (x1.toNatClampNeg) x2))), (c4, .inl (T 0, 24, .inl (upd f4 (x1.toNatClampNeg) x3))), (c5, .inl (T 0, 24, .inl g5)), (c6, .inl (T 0, 24, .inl g6)), (c7, .inl (T 0, 24, .inl g7))] H := hP
      have hD : va_D A [(h0, .inr (1, [.int n0, .ref c1, .ref c2, .ref c3, .ref c4, .ref c5, .ref c6, .ref c7])), (c1, .inl (T 0, 24, .inl f1)), (c2, .inl (T 0, 24, .inl f2)), (c3, .inl (T 0, 24, .inl (upd f3 (x1.toNatClampNeg) x2))), (c4, .inl (T 0, 24, .inl (upd f4 (x1.toNatClampNeg) x3))), (c5, .inl (T 0, 24, .inl g5)), (c6, .inl (T 0, 24, .inl g6)), (c7, .inl (T 0, 24, .inl g7))] := hD
      have hinv : 0 ≤ ii.toInt ∧ okC f1 (upd f3 (x1.toNatClampNeg) x2) (upd f4 (x1.toNatClampNeg) x3) g5 ∧ ∀ j : Nat, (j : Int) < ii.toInt → mesP f1 f2 (upd f3 (x1.toNatClampNeg) x2) (upd f4 (x1.toNatClampNeg) x3) g5 g6 g7 j := hinv
      obtain ⟨hii, hok, hme⟩ := hinv
      refine lv_iload hx hb dX2_rename_47 (lv_at hl 0 rfl) ?_
      refine lv_aload_n hx hb dX2_rename_49 rfl (lv_at hl 1 rfl) ?_
      refine va_get (D := D) (ci := 1) (v := .int n0) (C := RX2) (T := TX2) (N := 8) hx hb hts in_X2_rename_X2 hown hE.1 hP 0 rfl rfl 0 (by decide +kernel) (hts (.fieldLink RX2 9 "ClauseBook$Clauses" "size" "I") (List.mem_of_getElem? (i := 4) rfl)) (fun _ h9 => h9) rfl dX2_rename_50 ?_
      refine lv_icmp_ge (tgt := 68) hx hb dX2_rename_53 (by decide +kernel) (fun c_27 => ?_) (fun c_27 => ?_)
      · rw [fa_le] at c_27
        exact W.vret hx hb hr (fun t ht hW => ⟨⟨(fun k => [f1, f1, f1, (upd f3 (x1.toNatClampNeg) x2), (upd f4 (x1.toNatClampNeg) x3), g5, g6, g7].getD k f1), rfl, ⟨hok, (show (upd f3 (x1.toNatClampNeg) x2) = upd f3 (x1.toNatClampNeg) (if 1 ≤ (nmT ((f1 (x1.toNatClampNeg)).toNatClampNeg)).toInt then x2 else -1) from (by rw [if_pos (by rw [← ez_2]; omega)])), (show (upd f4 (x1.toNatClampNeg) x3) = upd f4 (x1.toNatClampNeg) (if (nmT ((f1 (x1.toNatClampNeg)).toNatClampNeg)).toInt = 2 then x3 else -1) from (by rw [if_pos (by rw [← ez_2]; omega)])), (fun j hj => hme j (by omega))⟩, by rw [ht]; exact hP.sub [0, 1, 2, 3, 4, 5, 6, 7] rfl, hD.sub [0, 1, 2, 3, 4, 5, 6, 7] (by decide +kernel) rfl⟩, hS.F ht⟩) hS.2.2 dX2_rename_68
      · rw [fa_le] at c_27
        refine lv_aload_n hx hb dX2_rename_56 rfl (lv_at hl 1 rfl) ?_
        refine lv_iload hx hb dX2_rename_57 (lv_at hl 0 rfl) ?_
        have hFc := va_free (wc := [(h0, .inr (1, [.int n0, .ref c1, .ref c2, .ref c3, .ref c4, .ref c5, .ref c6, .ref c7])), (c1, .inl (T 0, 24, .inl f1)), (c2, .inl (T 0, 24, .inl f2)), (c3, .inl (T 0, 24, .inl (upd f3 (x1.toNatClampNeg) x2))), (c4, .inl (T 0, 24, .inl (upd f4 (x1.toNatClampNeg) x3))), (c5, .inl (T 0, 24, .inl g5)), (c6, .inl (T 0, 24, .inl g6)), (c7, .inl (T 0, 24, .inl g7))]) hD hS hA [0, 1, 2, 3, 4, 5, 6, 7] rfl
        refine va_callv (va_runV (As := [.int ii]) (rest := []) ⟨hx, hb, hml, hown, hts⟩ (c_X2_measure l D T ad sa av ta _ h0 n0 c1 c2 c3 c4 c5 c6 c7 f1 f2 (upd f3 (x1.toNatClampNeg) x2) (upd f4 (x1.toNatClampNeg) x3) g5 g6 g7 ii (by omega) hok) (cwV 1 hts gX2_rename_X2_measure rfl rfl rfl hv_X2_measure ⟨Nat.le_of_ble_eq_true rfl, Nat.le_of_ble_eq_true rfl⟩) (pWk_V (q := (RX2, TX2, 8)) (ci := 1) (q0 := 0) hP hE hD hV hS hFc rfl rfl [0, 1, 2, 3, 4, 5, 6, 7] (by decide +kernel) rfl rfl) rfl rfl hl.1 rfl (lv_room (Nat.le_of_ble_eq_true rfl)) dX2_rename_59 ⟨Nat.le_of_ble_eq_true rfl, Nat.le_of_ble_eq_true rfl⟩) hS (fun q _ h => hFc q h) hFc (fun u_29 t H1 locs ht hvm hr_28 hB hz1 hk1 hS => ?_)
        obtain ⟨f_30, f_31, f_32⟩ := u_29
        have hef_30 : ∀ j : Nat, j < 24 → (f_30 j).toInt ≤ 6 := hr_28.1
        have hmqf_30 : mesQ f1 f2 (upd f3 (x1.toNatClampNeg) x2) (upd f4 (x1.toNatClampNeg) x3) g5 g6 g7 ii f_30 f_31 f_32 := hr_28.2
        obtain ⟨hP1, hD1⟩ := hB
        rw [ht] at hP1
        obtain ⟨hP, hD⟩ := va_repl [(h0, .inr (1, [.int n0, .ref c1, .ref c2, .ref c3, .ref c4, .ref c5, .ref c6, .ref c7])), (c1, .inl (T 0, 24, .inl f1)), (c2, .inl (T 0, 24, .inl f2)), (c3, .inl (T 0, 24, .inl (upd f3 (x1.toNatClampNeg) x2))), (c4, .inl (T 0, 24, .inl (upd f4 (x1.toNatClampNeg) x3))), (c5, .inl (T 0, 24, .inl f_30)), (c6, .inl (T 0, 24, .inl f_31)), (c7, .inl (T 0, 24, .inl f_32))] hP hD [0, 1, 2, 3, 4, 5, 6, 7] [0, 1, 2, 3, 4, 5, 6, 7] rfl (by decide +kernel) rfl rfl rfl hk1 hP1
        clear hP1 hD1 hFc
        generalize H1 = H at hP hS ⊢
        obtain ⟨z_33, ez_33⟩ : ∃ y : Int32, y = ii + 1 := ⟨_, rfl⟩
        refine lv_iinc (v := z_33) (lv' := [(5, .int z_33), (0, .ref h0), (1, .int x1), (2, .int x2), (3, .int x3), (4, .int z_2)]) hx hb dX2_rename_62 hl (k := 0) rfl (by rw [ez_33]; rfl) (by decide +kernel) rfl (fun ls hl => ?_)
        refine lv_goto (tgt := 47) hx hb dX2_rename_65 (by decide +kernel) ?_
        exact ih (z_33, f_30, f_31, f_32) ls _ _ ⟨lv_sub hl [0, 1, 2, 3, 4, 5] rfl, hP.sub [0, 1, 2, 3, 4, 5, 6, 7] rfl, hD.sub [0, 1, 2, 3, 4, 5, 6, 7] (by decide +kernel) rfl, hS, ⟨(by subst_vars; (try dsimp only); rw [inc1 (n := 24) (by omega) (by decide +kernel)]; omega), okC.ends hok hef_30, mes_loop hok (by omega) (by rw [ez_33]; exact inc1 (n := 24) (by omega) (by decide +kernel)) hme hmqf_30⟩⟩ (by subst_vars; (try dsimp only); rw [inc1 (n := 24) (by omega) (by decide +kernel)]; omega)
