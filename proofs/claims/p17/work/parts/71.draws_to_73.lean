section
theorem loopWD {p : Program} {l : Launch} {e : Env} {R : Room} {s : State} {m : MethodId} {args : Array Value} {below : List Frame} {meth : Method} {c : Code} {H : Heap} {locs : List Loc} {cells slots : Nat} {Q : State → Prop} {pc : Nat} {cs : List Choice} {σ : Type} (I : σ → Array Slot → Heap → List Loc → Prop) (μ : σ → Nat) (step : ∀ (x : σ) (ls : Array Slot) (H : Heap) (locs : List Loc) (d0 : Drawn), s.drawn.sameBut d0 cs → I x ls H locs → (∀ (y : σ) (ls' : Array Slot) (H' : Heap) (locs' : List Loc) (d1 : Drawn), s.drawn.sameBut d1 cs → I y ls' H' locs' → μ y < μ x → W p l e R (s.setDrawn d1) m args below meth c H' locs' cells slots Q (F0 m pc ls' [])) → W p l e R (s.setDrawn d0) m args below meth c H locs cells slots Q (F0 m pc ls [])) (x : σ) (ls : Array Slot) (d0 : Drawn) (hd : s.drawn.sameBut d0 cs) (h : I x ls H locs) : W p l e R (s.setDrawn d0) m args below meth c H locs cells slots Q (F0 m pc ls []) := by
  have key : ∀ (n : Nat) (x : σ) (ls : Array Slot) (H : Heap) (locs : List Loc) (d0 : Drawn), s.drawn.sameBut d0 cs → μ x < n → I x ls H locs → W p l e R (s.setDrawn d0) m args below meth c H locs cells slots Q (F0 m pc ls []) := by
    intro n
    induction n with
    | zero => intro x ls H locs d0 hd h; exact absurd h (Nat.not_lt_zero _)
    | succ n ih => intro x ls H locs d0 hd h hI; exact step x ls H locs d0 hd hI (fun y ls' H' locs' d1 hd1 hy hlt => ih y ls' H' locs' d1 hd1 (by omega) hy)
  exact key _ x ls H locs d0 hd (Nat.lt_succ_self _) h
theorem lv_ldcwf {p : Program} {l : Launch} {e : Env} {R : Room} {s : State} {m : MethodId} {args : Array Value} {below : List Frame} {meth : Method} {c : Code} {H : Heap} {locs : List Loc} {cells slots : Nat} {Q : State → Prop} {pc : Nat} {cc : ByteArray} {ls : Array Slot} {rest : List Value} (hexec : p.tables.exec = Jvm.exec) (hb : c.code = cc) {own : String} {index : Nat} {v : UInt32} (hown : s.vm.findClass own = some m.cls) (hconst : (Jvm.Cond.constantFloat own index v).before args s = true) (hdg : decode cc pc = .ok (.ldc_w index, 3)) (k : W p l e R s m args below meth c H locs cells slots Q (F0 m (pc + 3) ls (.float v :: rest))) : W p l e R s m args below meth c H locs cells slots Q (F0 m pc ls rest) := by
  intro T hT X
  obtain ⟨t, a, b⟩ := k T hT X
  refine ⟨t, ?_, b⟩
  obtain ⟨kk, cf, hk, hcf, hcp⟩ := Cond.constantFloat_spec hown hconst
  obtain ⟨k', hk', he⟩ := X.warmed.alike.2.2 _ _ hk
  jvm_step X.here [hexec, (show decode c.code (F0 m pc ls rest).pc = .ok (.ldc_w index, 3) by rw [hb]; exact hdg), ldc_w.wp_float (s := T) (f := F0 m pc ls rest) X.here.top hk' (by rw [he]; exact hcf) hcp]
  exact a
theorem dJxf58ca_isNaN_12338_0 : decode cJxf58ca_isNaN_12338 0 = .ok (.fload_n 0, 1) := by decide +kernel
theorem dJxf58ca_isNaN_12338_1 : decode cJxf58ca_isNaN_12338 1 = .ok (.fload_n 0, 1) := by decide +kernel
theorem dJxf58ca_isNaN_12338_10 : decode cJxf58ca_isNaN_12338 10 = .ok (.iconst 0, 1) := by decide +kernel
theorem dJxf58ca_isNaN_12338_11 : decode cJxf58ca_isNaN_12338 11 = .ok (.ireturn, 1) := by decide +kernel
theorem dJxf58ca_isNaN_12338_2 : decode cJxf58ca_isNaN_12338 2 = .ok (.fcmp .l, 1) := by decide +kernel
theorem dJxf58ca_isNaN_12338_3 : decode cJxf58ca_isNaN_12338 3 = .ok (.ifCond .eq 7, 3) := by decide +kernel
theorem dJxf58ca_isNaN_12338_6 : decode cJxf58ca_isNaN_12338 6 = .ok (.iconst 1, 1) := by decide +kernel
theorem dJxf58ca_isNaN_12338_7 : decode cJxf58ca_isNaN_12338 7 = .ok (.goto 4, 3) := by decide +kernel
set_option maxHeartbeats 4000000 in
set_option maxRecDepth 100000 in
theorem c_Jxf58ca_isNaN_12338 (l : Launch) (D : va_G) (T : Nat → ClassId) (x0 : UInt32)  : Met l yJxf58ca_isNaN_12338 wsJxf58ca_isNaN_12338 ({ frames := 0, cells := 0, slots := 0, locals := 0 }) (pR [.float x0] D T []) (vp_Si (fun r => True)) 0 0 (fun _ => False) := by
  refine nw_ofWF (cc := cJxf58ca_isNaN_12338) (maxL := 1) (ret := (some .boolean)) (by decide +kernel) rfl ?_
  intro p e s m args below meth c s₁ B hml hv
  obtain ⟨rfl, hP, hE⟩ := hv
  have hx := B.exec
  have hb := B.bytes
  have hr := B.returns
  have hts := atoms_spec (ws := wsJxf58ca_isNaN_12338) B.pre
  have hown : s.vm.findClass RJxf58ca = some m.cls := findClass_of_methodNamed B.named
  have hlocks := B.notSynchronized
  have hP : va_P D vwCl [] s.heap := hP
  have hl := lv_entry ([.float x0]) (n := 1) (Nat.le_of_ble_eq_true rfl)
  rw [lg_entry_eq]
  generalize (lg_sl ([.float x0]) ++ List.replicate (1 - (lg_sl ([.float x0])).length) Slot.unset).toArray = ls at hl ⊢
  have hl : lv_has ls 1 [(0, .float x0)] := hl
  refine lv_fload_n hx hb dJxf58ca_isNaN_12338_0 rfl (lv_at hl 0 rfl) ?_
  refine lv_fload_n hx hb dJxf58ca_isNaN_12338_1 rfl (lv_at hl 0 rfl) ?_
  refine lv_fcmp hx hb dJxf58ca_isNaN_12338_2 ?_
  refine lv_topi (fun z_1 ez_1 => ?_)
  refine lv_if_eq (tgt := 10) hx hb dJxf58ca_isNaN_12338_3 (by decide +kernel) (fun c_2 => ?_) (fun c_2 => ?_)
  · rw [fa_eq] at c_2
    try rw [ti_0] at c_2
    refine lv_iconst (v := 0) hx hb dJxf58ca_isNaN_12338_10 (by decide +kernel) ?_
    exact W.zret hx hb hr rfl (fun t ht hW => ⟨_, rfl, trivial, ht⟩) (fun _ h => by cases h) dJxf58ca_isNaN_12338_11
  · rw [fa_eq] at c_2
    try rw [ti_0] at c_2
    refine lv_iconst (v := 1) hx hb dJxf58ca_isNaN_12338_6 (by decide +kernel) ?_
    refine lv_goto (tgt := 11) hx hb dJxf58ca_isNaN_12338_7 (by decide +kernel) ?_
    exact W.zret hx hb hr rfl (fun t ht hW => ⟨_, rfl, trivial, ht⟩) (fun _ h => by cases h) dJxf58ca_isNaN_12338_11
theorem dJxf58ca_floatToIntBits_5c35a_0 : decode cJxf58ca_floatToIntBits_5c35a 0 = .ok (.fload_n 0, 1) := by decide +kernel
theorem dJxf58ca_floatToIntBits_5c35a_1 : decode cJxf58ca_floatToIntBits_5c35a 1 = .ok (.invokestatic 59, 3) := by decide +kernel
theorem dJxf58ca_floatToIntBits_5c35a_11 : decode cJxf58ca_floatToIntBits_5c35a 11 = .ok (.ireturn, 1) := by decide +kernel
theorem dJxf58ca_floatToIntBits_5c35a_12 : decode cJxf58ca_floatToIntBits_5c35a 12 = .ok (.ldc 77, 2) := by decide +kernel
theorem dJxf58ca_floatToIntBits_5c35a_14 : decode cJxf58ca_floatToIntBits_5c35a 14 = .ok (.ireturn, 1) := by decide +kernel
theorem dJxf58ca_floatToIntBits_5c35a_4 : decode cJxf58ca_floatToIntBits_5c35a 4 = .ok (.ifCond .ne 8, 3) := by decide +kernel
theorem dJxf58ca_floatToIntBits_5c35a_7 : decode cJxf58ca_floatToIntBits_5c35a 7 = .ok (.fload_n 0, 1) := by decide +kernel
theorem dJxf58ca_floatToIntBits_5c35a_8 : decode cJxf58ca_floatToIntBits_5c35a 8 = .ok (.invokestatic 74, 3) := by decide +kernel
set_option maxRecDepth 20000 in
theorem ggJxf58ca_floatToIntBits_5c35a_Jxf58ca_isNaN_12338 : GoodIn wsJxf58ca_floatToIntBits_5c35a wsJxf58ca_isNaN_12338 := goodIn_r _ [9] rfl (by decide +kernel)
set_option maxRecDepth 20000 in
theorem gJxf58ca_floatToIntBits_5c35a_Jxf58ca_isNaN_12338 : GoodIn wsJxf58ca_floatToIntBits_5c35a (va_wsS RJxf58ca 59 yJxf58ca_isNaN_12338 wsJxf58ca_isNaN_12338) := goodIn_app (goodIn_of _ (by decide +kernel)) ggJxf58ca_floatToIntBits_5c35a_Jxf58ca_isNaN_12338
theorem hs_Jxf58ca_isNaN_12338 : yJxf58ca_isNaN_12338.cls ≠ "java/lang/invoke/MethodHandle" ∧ yJxf58ca_isNaN_12338.cls ≠ "java/lang/invoke/VarHandle" ∧ (parseMethodDescriptor yJxf58ca_isNaN_12338.desc).map (fun d => d.parameters.length) = some 1 := by decide +kernel
set_option maxHeartbeats 4000000 in
set_option maxRecDepth 100000 in
theorem c_Jxf58ca_floatToIntBits_5c35a (l : Launch) (D : va_G) (T : Nat → ClassId) (x0 : UInt32)  : Met l yJxf58ca_floatToIntBits_5c35a wsJxf58ca_floatToIntBits_5c35a ({ frames := 1, cells := 0, slots := 0, locals := 40 }) (pR [.float x0] D T []) (vp_Si (fun r => True)) 0 0 (fun _ => False) := by
  refine nw_ofWF (cc := cJxf58ca_floatToIntBits_5c35a) (maxL := 1) (ret := (some .int)) (by decide +kernel) rfl ?_
  intro p e s m args below meth c s₁ B hml hv
  obtain ⟨rfl, hP, hE⟩ := hv
  have hx := B.exec
  have hb := B.bytes
  have hr := B.returns
  have hts := atoms_spec (ws := wsJxf58ca_floatToIntBits_5c35a) B.pre
  have hown : s.vm.findClass RJxf58ca = some m.cls := findClass_of_methodNamed B.named
  have hlocks := B.notSynchronized
  have hP : va_P D vwCl [] s.heap := hP
  have hl := lv_entry ([.float x0]) (n := 1) (Nat.le_of_ble_eq_true rfl)
  rw [lg_entry_eq]
  generalize (lg_sl ([.float x0]) ++ List.replicate (1 - (lg_sl ([.float x0])).length) Slot.unset).toArray = ls at hl ⊢
  have hl : lv_has ls 1 [(0, .float x0)] := hl
  refine lv_fload_n hx hb dJxf58ca_floatToIntBits_5c35a_0 rfl (lv_at hl 0 rfl) ?_
  refine vp_callSi (W.runS (As := [.float x0]) (rest := []) ⟨hx, hb, hml, hown, hts⟩ (c_Jxf58ca_isNaN_12338 l D T x0) (va_cwS 1 hts gJxf58ca_floatToIntBits_5c35a_Jxf58ca_isNaN_12338 rfl rfl rfl hs_Jxf58ca_isNaN_12338 ⟨Nat.le_of_ble_eq_true rfl, Nat.le_of_ble_eq_true rfl⟩) (pR_S hP hE [] rfl) rfl rfl hl.1 rfl (lv_room (Nat.le_of_ble_eq_true rfl)) dJxf58ca_floatToIntBits_5c35a_1 ⟨Nat.le_of_ble_eq_true rfl, Nat.le_of_ble_eq_true rfl⟩) (fun r_1 hr_1 => ?_)
  refine lv_if_ne (tgt := 12) hx hb dJxf58ca_floatToIntBits_5c35a_4 (by decide +kernel) (fun c_2 => ?_) (fun c_2 => ?_)
  · rw [fa_eq] at c_2
    try rw [ti_0] at c_2
    refine lv_ldc (v := 2143289344) hx hb hown (hts (.constant RJxf58ca 77 (2143289344)) (List.mem_of_getElem? (i := 5) rfl)) dJxf58ca_floatToIntBits_5c35a_12 ?_
    exact W.iret hx hb hr (fun t ht hW => ⟨_, rfl, trivial, ht⟩) (fun _ h => by cases h) dJxf58ca_floatToIntBits_5c35a_14
  · rw [fa_eq] at c_2
    try rw [ti_0] at c_2
    refine lv_fload_n hx hb dJxf58ca_floatToIntBits_5c35a_7 rfl (lv_at hl 0 rfl) ?_
    refine vn_f2i hx hb (hml.trans hl.1.symm) hown (hts (.methodLink RJxf58ca 74 ⟨"java/lang/Float", "floatToRawIntBits", "(F)I"⟩) (List.mem_of_getElem? (i := 1) rfl)) (hts (.native ⟨"java/lang/Float", "floatToRawIntBits", "(F)I"⟩) (List.mem_of_getElem? (i := 2) rfl)) (hts (.static ⟨"java/lang/Float", "floatToRawIntBits", "(F)I"⟩) (List.mem_of_getElem? (i := 3) rfl)) (hts (.initialized "java/lang/Float") (List.mem_of_getElem? (i := 4) rfl)) (Nat.le_of_ble_eq_true rfl) (Nat.le_of_ble_eq_true rfl) dJxf58ca_floatToIntBits_5c35a_8 ?_
    exact W.iret hx hb hr (fun t ht hW => ⟨_, rfl, trivial, ht⟩) (fun _ h => by cases h) dJxf58ca_floatToIntBits_5c35a_11
theorem dJxe99ae_isNaN_b9ae7_0 : decode cJxe99ae_isNaN_b9ae7 0 = .ok (.dload_n 0, 1) := by decide +kernel
theorem dJxe99ae_isNaN_b9ae7_1 : decode cJxe99ae_isNaN_b9ae7 1 = .ok (.dload_n 0, 1) := by decide +kernel
theorem dJxe99ae_isNaN_b9ae7_10 : decode cJxe99ae_isNaN_b9ae7 10 = .ok (.iconst 0, 1) := by decide +kernel
theorem dJxe99ae_isNaN_b9ae7_11 : decode cJxe99ae_isNaN_b9ae7 11 = .ok (.ireturn, 1) := by decide +kernel
theorem dJxe99ae_isNaN_b9ae7_2 : decode cJxe99ae_isNaN_b9ae7 2 = .ok (.dcmp .l, 1) := by decide +kernel
theorem dJxe99ae_isNaN_b9ae7_3 : decode cJxe99ae_isNaN_b9ae7 3 = .ok (.ifCond .eq 7, 3) := by decide +kernel
theorem dJxe99ae_isNaN_b9ae7_6 : decode cJxe99ae_isNaN_b9ae7 6 = .ok (.iconst 1, 1) := by decide +kernel
theorem dJxe99ae_isNaN_b9ae7_7 : decode cJxe99ae_isNaN_b9ae7 7 = .ok (.goto 4, 3) := by decide +kernel
set_option maxHeartbeats 4000000 in
set_option maxRecDepth 100000 in
theorem c_Jxe99ae_isNaN_b9ae7 (l : Launch) (D : va_G) (T : Nat → ClassId) (x0 : UInt64)  : Met l yJxe99ae_isNaN_b9ae7 wsJxe99ae_isNaN_b9ae7 ({ frames := 0, cells := 0, slots := 0, locals := 0 }) (pR [.double x0] D T []) (vp_Si (fun r => True)) 0 0 (fun _ => False) := by
  refine nw_ofWF (cc := cJxe99ae_isNaN_b9ae7) (maxL := 2) (ret := (some .boolean)) (by decide +kernel) rfl ?_
  intro p e s m args below meth c s₁ B hml hv
  obtain ⟨rfl, hP, hE⟩ := hv
  have hx := B.exec
  have hb := B.bytes
  have hr := B.returns
  have hts := atoms_spec (ws := wsJxe99ae_isNaN_b9ae7) B.pre
  have hown : s.vm.findClass RJxe99ae = some m.cls := findClass_of_methodNamed B.named
  have hlocks := B.notSynchronized
  have hP : va_P D vwCl [] s.heap := hP
  have hl := lv_entry ([.double x0]) (n := 2) (Nat.le_of_ble_eq_true rfl)
  rw [lg_entry_eq]
  generalize (lg_sl ([.double x0]) ++ List.replicate (2 - (lg_sl ([.double x0])).length) Slot.unset).toArray = ls at hl ⊢
  have hl : lv_has ls 2 [(0, .double x0)] := hl
  refine lv_dload_n hx hb dJxe99ae_isNaN_b9ae7_0 rfl (lv_at hl 0 rfl) ?_
  refine lv_dload_n hx hb dJxe99ae_isNaN_b9ae7_1 rfl (lv_at hl 0 rfl) ?_
  refine lv_dcmp hx hb dJxe99ae_isNaN_b9ae7_2 ?_
  refine lv_topi (fun z_1 ez_1 => ?_)
  refine lv_if_eq (tgt := 10) hx hb dJxe99ae_isNaN_b9ae7_3 (by decide +kernel) (fun c_2 => ?_) (fun c_2 => ?_)
  · rw [fa_eq] at c_2
    try rw [ti_0] at c_2
    refine lv_iconst (v := 0) hx hb dJxe99ae_isNaN_b9ae7_10 (by decide +kernel) ?_
    exact W.zret hx hb hr rfl (fun t ht hW => ⟨_, rfl, trivial, ht⟩) (fun _ h => by cases h) dJxe99ae_isNaN_b9ae7_11
  · rw [fa_eq] at c_2
    try rw [ti_0] at c_2
    refine lv_iconst (v := 1) hx hb dJxe99ae_isNaN_b9ae7_6 (by decide +kernel) ?_
    refine lv_goto (tgt := 11) hx hb dJxe99ae_isNaN_b9ae7_7 (by decide +kernel) ?_
    exact W.zret hx hb hr rfl (fun t ht hW => ⟨_, rfl, trivial, ht⟩) (fun _ h => by cases h) dJxe99ae_isNaN_b9ae7_11
theorem dJxe99ae_doubleToLongBits_ccdee_0 : decode cJxe99ae_doubleToLongBits_ccdee 0 = .ok (.dload_n 0, 1) := by decide +kernel
theorem dJxe99ae_doubleToLongBits_ccdee_1 : decode cJxe99ae_doubleToLongBits_ccdee 1 = .ok (.invokestatic 122, 3) := by decide +kernel
theorem dJxe99ae_doubleToLongBits_ccdee_11 : decode cJxe99ae_doubleToLongBits_ccdee 11 = .ok (.lreturn, 1) := by decide +kernel
theorem dJxe99ae_doubleToLongBits_ccdee_12 : decode cJxe99ae_doubleToLongBits_ccdee 12 = .ok (.ldc2_w 137, 3) := by decide +kernel
theorem dJxe99ae_doubleToLongBits_ccdee_15 : decode cJxe99ae_doubleToLongBits_ccdee 15 = .ok (.lreturn, 1) := by decide +kernel
theorem dJxe99ae_doubleToLongBits_ccdee_4 : decode cJxe99ae_doubleToLongBits_ccdee 4 = .ok (.ifCond .ne 8, 3) := by decide +kernel
theorem dJxe99ae_doubleToLongBits_ccdee_7 : decode cJxe99ae_doubleToLongBits_ccdee 7 = .ok (.dload_n 0, 1) := by decide +kernel
theorem dJxe99ae_doubleToLongBits_ccdee_8 : decode cJxe99ae_doubleToLongBits_ccdee 8 = .ok (.invokestatic 134, 3) := by decide +kernel
set_option maxRecDepth 20000 in
theorem ggJxe99ae_doubleToLongBits_ccdee_Jxe99ae_isNaN_b9ae7 : GoodIn wsJxe99ae_doubleToLongBits_ccdee wsJxe99ae_isNaN_b9ae7 := goodIn_r _ [9] rfl (by decide +kernel)
set_option maxRecDepth 20000 in
theorem gJxe99ae_doubleToLongBits_ccdee_Jxe99ae_isNaN_b9ae7 : GoodIn wsJxe99ae_doubleToLongBits_ccdee (va_wsS RJxe99ae 122 yJxe99ae_isNaN_b9ae7 wsJxe99ae_isNaN_b9ae7) := goodIn_app (goodIn_of _ (by decide +kernel)) ggJxe99ae_doubleToLongBits_ccdee_Jxe99ae_isNaN_b9ae7
theorem hs_Jxe99ae_isNaN_b9ae7 : yJxe99ae_isNaN_b9ae7.cls ≠ "java/lang/invoke/MethodHandle" ∧ yJxe99ae_isNaN_b9ae7.cls ≠ "java/lang/invoke/VarHandle" ∧ (parseMethodDescriptor yJxe99ae_isNaN_b9ae7.desc).map (fun d => d.parameters.length) = some 1 := by decide +kernel
set_option maxHeartbeats 4000000 in
set_option maxRecDepth 100000 in
theorem c_Jxe99ae_doubleToLongBits_ccdee (l : Launch) (D : va_G) (T : Nat → ClassId) (x0 : UInt64)  : Met l yJxe99ae_doubleToLongBits_ccdee wsJxe99ae_doubleToLongBits_ccdee ({ frames := 1, cells := 0, slots := 0, locals := 40 }) (pR [.double x0] D T []) (vp_Sl (fun r => True)) 0 0 (fun _ => False) := by
  refine nw_ofWF (cc := cJxe99ae_doubleToLongBits_ccdee) (maxL := 2) (ret := (some .long)) (by decide +kernel) rfl ?_
  intro p e s m args below meth c s₁ B hml hv
  obtain ⟨rfl, hP, hE⟩ := hv
  have hx := B.exec
  have hb := B.bytes
  have hr := B.returns
  have hts := atoms_spec (ws := wsJxe99ae_doubleToLongBits_ccdee) B.pre
  have hown : s.vm.findClass RJxe99ae = some m.cls := findClass_of_methodNamed B.named
  have hlocks := B.notSynchronized
  have hP : va_P D vwCl [] s.heap := hP
  have hl := lv_entry ([.double x0]) (n := 2) (Nat.le_of_ble_eq_true rfl)
  rw [lg_entry_eq]
  generalize (lg_sl ([.double x0]) ++ List.replicate (2 - (lg_sl ([.double x0])).length) Slot.unset).toArray = ls at hl ⊢
  have hl : lv_has ls 2 [(0, .double x0)] := hl
  refine lv_dload_n hx hb dJxe99ae_doubleToLongBits_ccdee_0 rfl (lv_at hl 0 rfl) ?_
  refine vp_callSi (W.runS (As := [.double x0]) (rest := []) ⟨hx, hb, hml, hown, hts⟩ (c_Jxe99ae_isNaN_b9ae7 l D T x0) (va_cwS 1 hts gJxe99ae_doubleToLongBits_ccdee_Jxe99ae_isNaN_b9ae7 rfl rfl rfl hs_Jxe99ae_isNaN_b9ae7 ⟨Nat.le_of_ble_eq_true rfl, Nat.le_of_ble_eq_true rfl⟩) (pR_S hP hE [] rfl) rfl rfl hl.1 rfl (lv_room (Nat.le_of_ble_eq_true rfl)) dJxe99ae_doubleToLongBits_ccdee_1 ⟨Nat.le_of_ble_eq_true rfl, Nat.le_of_ble_eq_true rfl⟩) (fun r_1 hr_1 => ?_)
  refine lv_if_ne (tgt := 12) hx hb dJxe99ae_doubleToLongBits_ccdee_4 (by decide +kernel) (fun c_2 => ?_) (fun c_2 => ?_)
  · rw [fa_eq] at c_2
    try rw [ti_0] at c_2
    refine lv_ldc2 (v := 9221120237041090560) hx hb hown (hts (.constantLong RJxe99ae 137 (9221120237041090560)) (List.mem_of_getElem? (i := 5) rfl)) dJxe99ae_doubleToLongBits_ccdee_12 ?_
    exact W.lret hx hb hr (fun t ht hW => ⟨_, rfl, trivial, ht⟩) (fun _ h => by cases h) dJxe99ae_doubleToLongBits_ccdee_15
  · rw [fa_eq] at c_2
    try rw [ti_0] at c_2
    refine lv_dload_n hx hb dJxe99ae_doubleToLongBits_ccdee_7 rfl (lv_at hl 0 rfl) ?_
    refine vn_d2l hx hb (hml.trans hl.1.symm) hown (hts (.methodLink RJxe99ae 134 ⟨"java/lang/Double", "doubleToRawLongBits", "(D)J"⟩) (List.mem_of_getElem? (i := 1) rfl)) (hts (.native ⟨"java/lang/Double", "doubleToRawLongBits", "(D)J"⟩) (List.mem_of_getElem? (i := 2) rfl)) (hts (.static ⟨"java/lang/Double", "doubleToRawLongBits", "(D)J"⟩) (List.mem_of_getElem? (i := 3) rfl)) (hts (.initialized "java/lang/Double") (List.mem_of_getElem? (i := 4) rfl)) (Nat.le_of_ble_eq_true rfl) (Nat.le_of_ble_eq_true rfl) dJxe99ae_doubleToLongBits_ccdee_8 ?_
    exact W.lret hx hb hr (fun t ht hW => ⟨_, rfl, trivial, ht⟩) (fun _ h => by cases h) dJxe99ae_doubleToLongBits_ccdee_11
theorem dX13_cell_0 : decode cX13_cell 0 = .ok (.aload_n 0, 1) := by decide +kernel
theorem dX13_cell_1 : decode cX13_cell 1 = .ok (.iload_n 1, 1) := by decide +kernel
theorem dX13_cell_10 : decode cX13_cell 10 = .ok (.ifCond .eq 6, 3) := by decide +kernel
theorem dX13_cell_13 : decode cX13_cell 13 = .ok (.iload 5, 2) := by decide +kernel
theorem dX13_cell_15 : decode cX13_cell 15 = .ok (.ireturn, 1) := by decide +kernel
theorem dX13_cell_16 : decode cX13_cell 16 = .ok (.aload_n 0, 1) := by decide +kernel
theorem dX13_cell_17 : decode cX13_cell 17 = .ok (.getfield 104, 3) := by decide +kernel
theorem dX13_cell_2 : decode cX13_cell 2 = .ok (.iload_n 2, 1) := by decide +kernel
theorem dX13_cell_20 : decode cX13_cell 20 = .ok (.iload_n 1, 1) := by decide +kernel
theorem dX13_cell_21 : decode cX13_cell 21 = .ok (.iaload, 1) := by decide +kernel
theorem dX13_cell_22 : decode cX13_cell 22 = .ok (.ifCond .ne 14, 3) := by decide +kernel
theorem dX13_cell_25 : decode cX13_cell 25 = .ok (.lload_n 3, 1) := by decide +kernel
theorem dX13_cell_26 : decode cX13_cell 26 = .ok (.lload_n 3, 1) := by decide +kernel
theorem dX13_cell_27 : decode cX13_cell 27 = .ok (.l2i, 1) := by decide +kernel
theorem dX13_cell_28 : decode cX13_cell 28 = .ok (.i2l, 1) := by decide +kernel
theorem dX13_cell_29 : decode cX13_cell 29 = .ok (.lcmp, 1) := by decide +kernel
theorem dX13_cell_3 : decode cX13_cell 3 = .ok (.invokevirtual 410, 3) := by decide +kernel
theorem dX13_cell_30 : decode cX13_cell 30 = .ok (.ifCond .eq 6, 3) := by decide +kernel
theorem dX13_cell_33 : decode cX13_cell 33 = .ok (.bipush (-5), 2) := by decide +kernel
theorem dX13_cell_35 : decode cX13_cell 35 = .ok (.ireturn, 1) := by decide +kernel
theorem dX13_cell_36 : decode cX13_cell 36 = .ok (.aload_n 0, 1) := by decide +kernel
theorem dX13_cell_37 : decode cX13_cell 37 = .ok (.getfield 110, 3) := by decide +kernel
theorem dX13_cell_40 : decode cX13_cell 40 = .ok (.bipush 30, 2) := by decide +kernel
theorem dX13_cell_42 : decode cX13_cell 42 = .ok (.iload_n 1, 1) := by decide +kernel
theorem dX13_cell_43 : decode cX13_cell 43 = .ok (.imul, 1) := by decide +kernel
theorem dX13_cell_44 : decode cX13_cell 44 = .ok (.iload_n 2, 1) := by decide +kernel
theorem dX13_cell_45 : decode cX13_cell 45 = .ok (.iadd, 1) := by decide +kernel
theorem dX13_cell_46 : decode cX13_cell 46 = .ok (.lload_n 3, 1) := by decide +kernel
theorem dX13_cell_47 : decode cX13_cell 47 = .ok (.lastore, 1) := by decide +kernel
theorem dX13_cell_48 : decode cX13_cell 48 = .ok (.aload_n 0, 1) := by decide +kernel
theorem dX13_cell_49 : decode cX13_cell 49 = .ok (.getfield 113, 3) := by decide +kernel
theorem dX13_cell_52 : decode cX13_cell 52 = .ok (.bipush 30, 2) := by decide +kernel
theorem dX13_cell_54 : decode cX13_cell 54 = .ok (.iload_n 1, 1) := by decide +kernel
theorem dX13_cell_55 : decode cX13_cell 55 = .ok (.imul, 1) := by decide +kernel
theorem dX13_cell_56 : decode cX13_cell 56 = .ok (.iload_n 2, 1) := by decide +kernel
theorem dX13_cell_57 : decode cX13_cell 57 = .ok (.iadd, 1) := by decide +kernel
theorem dX13_cell_58 : decode cX13_cell 58 = .ok (.aload_n 0, 1) := by decide +kernel
theorem dX13_cell_59 : decode cX13_cell 59 = .ok (.getfield 104, 3) := by decide +kernel
theorem dX13_cell_6 : decode cX13_cell 6 = .ok (.istore 5, 2) := by decide +kernel
theorem dX13_cell_62 : decode cX13_cell 62 = .ok (.iload_n 1, 1) := by decide +kernel
theorem dX13_cell_63 : decode cX13_cell 63 = .ok (.iaload, 1) := by decide +kernel
theorem dX13_cell_64 : decode cX13_cell 64 = .ok (.iconst 2, 1) := by decide +kernel
theorem dX13_cell_65 : decode cX13_cell 65 = .ok (.if_icmp .ne 9, 3) := by decide +kernel
theorem dX13_cell_68 : decode cX13_cell 68 = .ok (.lload_n 3, 1) := by decide +kernel
theorem dX13_cell_69 : decode cX13_cell 69 = .ok (.l2f, 1) := by decide +kernel
theorem dX13_cell_70 : decode cX13_cell 70 = .ok (.f2d, 1) := by decide +kernel
theorem dX13_cell_71 : decode cX13_cell 71 = .ok (.goto 5, 3) := by decide +kernel
theorem dX13_cell_74 : decode cX13_cell 74 = .ok (.lload_n 3, 1) := by decide +kernel
theorem dX13_cell_75 : decode cX13_cell 75 = .ok (.l2d, 1) := by decide +kernel
theorem dX13_cell_76 : decode cX13_cell 76 = .ok (.dastore, 1) := by decide +kernel
theorem dX13_cell_77 : decode cX13_cell 77 = .ok (.iconst 1, 1) := by decide +kernel
theorem dX13_cell_78 : decode cX13_cell 78 = .ok (.ireturn, 1) := by decide +kernel
theorem dX13_cell_8 : decode cX13_cell 8 = .ok (.iload 5, 2) := by decide +kernel
set_option maxRecDepth 20000 in
theorem ggX13_cell_X13_wrong : GoodIn wsX13_cell wsX13_wrong := goodIn_r _ [8, 1, 9, 10, 11, 7, 12, 13, 14, 15, 16, 17, 18, 19, 20, 21, 22, 23, 24, 25, 26, 27, 28, 29, 30, 31, 32, 33, 34, 35, 36, 37, 38, 39, 40, 41, 42, 43, 44, 45, 46, 47, 48, 49, 50, 51, 52, 53, 54, 55, 56, 57, 58, 59, 60, 61] rfl (by decide +kernel)
set_option maxRecDepth 20000 in
theorem gX13_cell_X13_wrong : GoodIn wsX13_cell (wsV RX13 410 RX13 yX13_wrong wsX13_wrong) := goodIn_app (goodIn_r _ [4, 5, 6, 7] rfl (by decide +kernel)) ggX13_cell_X13_wrong
theorem hv_X13_wrong : yX13_wrong.cls = RX13 ∧ yX13_wrong.cls ≠ "java/lang/invoke/MethodHandle" ∧ yX13_wrong.cls ≠ "java/lang/invoke/VarHandle" ∧ (parseMethodDescriptor yX13_wrong.desc).map (fun d => d.parameters.length) = some 2 := by decide +kernel
set_option maxRecDepth 20000 in
theorem in_X13_cell_X13 : ∀ w ∈ wsX130, w ∈ wsX13_cell := sub_r [17, 18, 19, 20, 21, 22, 23, 24, 25, 26, 27, 28, 29, 30, 31, 32, 33, 34, 35, 36, 37, 38, 39, 40, 41, 42, 43, 44, 45, 46, 47, 48, 49, 50, 51, 52, 53, 54, 55, 56, 57, 58, 59, 60, 61] rfl
set_option maxHeartbeats 4000000 in
set_option maxRecDepth 100000 in
theorem c_X13_cell (l : Launch) (D : va_G) (T : Nat → ClassId) (sz : Nat) (h0 : Nat) (q : Nat → Int32) (v : Int64) (w : Int64) (a : Nat → Nat) (f34 : Nat → Int32) (f35 : Nat → Int32) (f36 : Nat → Int64) (f37 : Nat → UInt64) (x1 : Int32) (x2 : Int32) (x3 : Int64) (hsz : ∀ k : Nat, k < 4 → 0 ≤ (f35 k).toInt ∧ (f35 k).toInt ≤ 30) : MetD lw_cs l yX13_cell wsX13_cell ({ frames := 3, cells := 0, slots := 0, locals := 67 }) (pW [.ref h0, .int x1, .int x2, .long x3] D T [(h0, .inr (10, (Value.int (q 0) :: Value.int (q 1) :: Value.int (q 2) :: Value.int (q 3) :: Value.int (q 4) :: Value.int (q 5) :: Value.int (q 6) :: Value.int (q 7) :: Value.ref (a 8) :: Value.ref (a 9) :: Value.ref (a 10) :: Value.ref (a 11) :: Value.ref (a 12) :: Value.ref (a 13) :: Value.int (q 14) :: Value.long v :: Value.long w :: Value.ref (a 17) :: Value.ref (a 18) :: Value.ref (a 19) :: Value.ref (a 20) :: Value.ref (a 21) :: Value.ref (a 22) :: Value.ref (a 23) :: Value.int (q 24) :: Value.ref (a 25) :: Value.int (q 26) :: Value.ref (a 27) :: Value.int (q 28) :: Value.int (q 29) :: Value.int (q 30) :: Value.int (q 31) :: Value.int (q 32) :: Value.int (q 33) :: Value.ref (a 34) :: Value.ref (a 35) :: Value.ref (a 36) :: Value.ref (a 37) :: Value.ref (a 38) :: Value.ref (a 39) :: Value.ref (a 40) :: Value.int (q 41) :: Value.ref (a 42) :: Value.int (q 43) :: Value.int (q 44) :: []))), ((a 34), .inl (T 0, 4, .inl f34)), ((a 35), .inl (T 0, 4, .inl f35)), ((a 36), .inl (T 1, 120, .inr (.inl f36))), ((a 37), .inl (T 3, 120, .inr (.inr (.inr (.inl f37)))))] sz) (va_Qi (fun (r : Int32) (u : (Nat → Int64) × (Nat → UInt64)) => ((¬ (0 ≤ x1.toInt ∧ x1.toInt ≤ 3) → r.toInt = -2) ∧ ((0 ≤ x1.toInt ∧ x1.toInt ≤ 3) → ((f34 (x1.toNatClampNeg)).toInt < 0 → r.toInt = -11) ∧ (¬ (f34 (x1.toNatClampNeg)).toInt < 0 → ((0 ≤ x2.toInt ∧ x2.toInt < (f35 (x1.toNatClampNeg)).toInt) → ((f34 (x1.toNatClampNeg)).toInt = 0 ∧ ¬ x3.toInt = x3.toInt32.toInt → r.toInt = -5) ∧ (¬ ((f34 (x1.toNatClampNeg)).toInt = 0 ∧ ¬ x3.toInt = x3.toInt32.toInt) → r.toInt = 1)) ∧ (¬ (0 ≤ x2.toInt ∧ x2.toInt < (f35 (x1.toNatClampNeg)).toInt) → r.toInt = -12))))) (bW D (va_A [(h0, .inr (10, (Value.int (q 0) :: Value.int (q 1) :: Value.int (q 2) :: Value.int (q 3) :: Value.int (q 4) :: Value.int (q 5) :: Value.int (q 6) :: Value.int (q 7) :: Value.ref (a 8) :: Value.ref (a 9) :: Value.ref (a 10) :: Value.ref (a 11) :: Value.ref (a 12) :: Value.ref (a 13) :: Value.int (q 14) :: Value.long v :: Value.long w :: Value.ref (a 17) :: Value.ref (a 18) :: Value.ref (a 19) :: Value.ref (a 20) :: Value.ref (a 21) :: Value.ref (a 22) :: Value.ref (a 23) :: Value.int (q 24) :: Value.ref (a 25) :: Value.int (q 26) :: Value.ref (a 27) :: Value.int (q 28) :: Value.int (q 29) :: Value.int (q 30) :: Value.int (q 31) :: Value.int (q 32) :: Value.int (q 33) :: Value.ref (a 34) :: Value.ref (a 35) :: Value.ref (a 36) :: Value.ref (a 37) :: Value.ref (a 38) :: Value.ref (a 39) :: Value.ref (a 40) :: Value.int (q 41) :: Value.ref (a 42) :: Value.int (q 43) :: Value.int (q 44) :: []))), ((a 34), .inl (T 0, 4, .inl f34)), ((a 35), .inl (T 0, 4, .inl f35)), ((a 36), .inl (T 1, 120, .inr (.inl f36))), ((a 37), .inl (T 3, 120, .inr (.inr (.inr (.inl f37)))))] sz) (fun (u : (Nat → Int64) × (Nat → UInt64)) => [(h0, .inr (10, (Value.int (q 0) :: Value.int (q 1) :: Value.int (q 2) :: Value.int (q 3) :: Value.int (q 4) :: Value.int (q 5) :: Value.int (q 6) :: Value.int (q 7) :: Value.ref (a 8) :: Value.ref (a 9) :: Value.ref (a 10) :: Value.ref (a 11) :: Value.ref (a 12) :: Value.ref (a 13) :: Value.int (q 14) :: Value.long v :: Value.long w :: Value.ref (a 17) :: Value.ref (a 18) :: Value.ref (a 19) :: Value.ref (a 20) :: Value.ref (a 21) :: Value.ref (a 22) :: Value.ref (a 23) :: Value.int (q 24) :: Value.ref (a 25) :: Value.int (q 26) :: Value.ref (a 27) :: Value.int (q 28) :: Value.int (q 29) :: Value.int (q 30) :: Value.int (q 31) :: Value.int (q 32) :: Value.int (q 33) :: Value.ref (a 34) :: Value.ref (a 35) :: Value.ref (a 36) :: Value.ref (a 37) :: Value.ref (a 38) :: Value.ref (a 39) :: Value.ref (a 40) :: Value.int (q 41) :: Value.ref (a 42) :: Value.int (q 43) :: Value.int (q 44) :: []))), ((a 34), .inl (T 0, 4, .inl f34)), ((a 35), .inl (T 0, 4, .inl f35)), ((a 36), .inl (T 1, 120, .inr (.inl u.1))), ((a 37), .inl (T 3, 120, .inr (.inr (.inr (.inl u.2)))))])) (va_A [(h0, .inr (10, (Value.int (q 0) :: Value.int (q 1) :: Value.int (q 2) :: Value.int (q 3) :: Value.int (q 4) :: Value.int (q 5) :: Value.int (q 6) :: Value.int (q 7) :: Value.ref (a 8) :: Value.ref (a 9) :: Value.ref (a 10) :: Value.ref (a 11) :: Value.ref (a 12) :: Value.ref (a 13) :: Value.int (q 14) :: Value.long v :: Value.long w :: Value.ref (a 17) :: Value.ref (a 18) :: Value.ref (a 19) :: Value.ref (a 20) :: Value.ref (a 21) :: Value.ref (a 22) :: Value.ref (a 23) :: Value.int (q 24) :: Value.ref (a 25) :: Value.int (q 26) :: Value.ref (a 27) :: Value.int (q 28) :: Value.int (q 29) :: Value.int (q 30) :: Value.int (q 31) :: Value.int (q 32) :: Value.int (q 33) :: Value.ref (a 34) :: Value.ref (a 35) :: Value.ref (a 36) :: Value.ref (a 37) :: Value.ref (a 38) :: Value.ref (a 39) :: Value.ref (a 40) :: Value.int (q 41) :: Value.ref (a 42) :: Value.int (q 43) :: Value.int (q 44) :: []))), ((a 34), .inl (T 0, 4, .inl f34)), ((a 35), .inl (T 0, 4, .inl f35)), ((a 36), .inl (T 1, 120, .inr (.inl f36))), ((a 37), .inl (T 3, 120, .inr (.inr (.inr (.inl f37)))))] sz)) 0 0 (va_A [(h0, .inr (10, (Value.int (q 0) :: Value.int (q 1) :: Value.int (q 2) :: Value.int (q 3) :: Value.int (q 4) :: Value.int (q 5) :: Value.int (q 6) :: Value.int (q 7) :: Value.ref (a 8) :: Value.ref (a 9) :: Value.ref (a 10) :: Value.ref (a 11) :: Value.ref (a 12) :: Value.ref (a 13) :: Value.int (q 14) :: Value.long v :: Value.long w :: Value.ref (a 17) :: Value.ref (a 18) :: Value.ref (a 19) :: Value.ref (a 20) :: Value.ref (a 21) :: Value.ref (a 22) :: Value.ref (a 23) :: Value.int (q 24) :: Value.ref (a 25) :: Value.int (q 26) :: Value.ref (a 27) :: Value.int (q 28) :: Value.int (q 29) :: Value.int (q 30) :: Value.int (q 31) :: Value.int (q 32) :: Value.int (q 33) :: Value.ref (a 34) :: Value.ref (a 35) :: Value.ref (a 36) :: Value.ref (a 37) :: Value.ref (a 38) :: Value.ref (a 39) :: Value.ref (a 40) :: Value.int (q 41) :: Value.ref (a 42) :: Value.int (q 43) :: Value.int (q 44) :: []))), ((a 34), .inl (T 0, 4, .inl f34)), ((a 35), .inl (T 0, 4, .inl f35)), ((a 36), .inl (T 1, 120, .inr (.inl f36))), ((a 37), .inl (T 3, 120, .inr (.inr (.inr (.inl f37)))))] sz) := by
  refine MetD.ofW (cc := cX13_cell) (maxL := 6) (ret := (some .int)) (by decide +kernel) rfl ?_
  intro p e s m args below meth c s₁ B hml hv hd0
  obtain ⟨rfl, hsz, hP, hE0, hD0⟩ := hv
  have hx := B.exec
  have hb := B.bytes
  have hr := B.returns
  have hts0 := atoms_spec (ws := wsX13_cell) B.pre
  have hown0 : s.vm.findClass RX13 = some m.cls := findClass_of_methodNamed B.named
  have hlocks := B.notSynchronized
  subst hsz
  have hD := hD0.self (sz := s.heap.size)
  generalize hAe : va_A [(h0, .inr (10, (Value.int (q 0) :: Value.int (q 1) :: Value.int (q 2) :: Value.int (q 3) :: Value.int (q 4) :: Value.int (q 5) :: Value.int (q 6) :: Value.int (q 7) :: Value.ref (a 8) :: Value.ref (a 9) :: Value.ref (a 10) :: Value.ref (a 11) :: Value.ref (a 12) :: Value.ref (a 13) :: Value.int (q 14) :: Value.long v :: Value.long w :: Value.ref (a 17) :: Value.ref (a 18) :: Value.ref (a 19) :: Value.ref (a 20) :: Value.ref (a 21) :: Value.ref (a 22) :: Value.ref (a 23) :: Value.int (q 24) :: Value.ref (a 25) :: Value.int (q 26) :: Value.ref (a 27) :: Value.int (q 28) :: Value.int (q 29) :: Value.int (q 30) :: Value.int (q 31) :: Value.int (q 32) :: Value.int (q 33) :: Value.ref (a 34) :: Value.ref (a 35) :: Value.ref (a 36) :: Value.ref (a 37) :: Value.ref (a 38) :: Value.ref (a 39) :: Value.ref (a 40) :: Value.int (q 41) :: Value.ref (a 42) :: Value.int (q 43) :: Value.int (q 44) :: []))), ((a 34), .inl (T 0, 4, .inl f34)), ((a 35), .inl (T 0, 4, .inl f35)), ((a 36), .inl (T 1, 120, .inr (.inl f36))), ((a 37), .inl (T 3, 120, .inr (.inr (.inr (.inl f37)))))] s.heap.size = A at hD ⊢
  have hA : ∀ q : Nat, s.heap.size ≤ q → A q := fun q h => by rw [← hAe]; exact Or.inr h
  have hS : va_S A s.heap s.heap [] := va_S.rf
  have hP : va_P D vwCl [(h0, .inr (10, (Value.int (q 0) :: Value.int (q 1) :: Value.int (q 2) :: Value.int (q 3) :: Value.int (q 4) :: Value.int (q 5) :: Value.int (q 6) :: Value.int (q 7) :: Value.ref (a 8) :: Value.ref (a 9) :: Value.ref (a 10) :: Value.ref (a 11) :: Value.ref (a 12) :: Value.ref (a 13) :: Value.int (q 14) :: Value.long v :: Value.long w :: Value.ref (a 17) :: Value.ref (a 18) :: Value.ref (a 19) :: Value.ref (a 20) :: Value.ref (a 21) :: Value.ref (a 22) :: Value.ref (a 23) :: Value.int (q 24) :: Value.ref (a 25) :: Value.int (q 26) :: Value.ref (a 27) :: Value.int (q 28) :: Value.int (q 29) :: Value.int (q 30) :: Value.int (q 31) :: Value.int (q 32) :: Value.int (q 33) :: Value.ref (a 34) :: Value.ref (a 35) :: Value.ref (a 36) :: Value.ref (a 37) :: Value.ref (a 38) :: Value.ref (a 39) :: Value.ref (a 40) :: Value.int (q 41) :: Value.ref (a 42) :: Value.int (q 43) :: Value.int (q 44) :: []))), ((a 34), .inl (T 0, 4, .inl f34)), ((a 35), .inl (T 0, 4, .inl f35)), ((a 36), .inl (T 1, 120, .inr (.inl f36))), ((a 37), .inl (T 3, 120, .inr (.inr (.inr (.inl f37)))))] s.heap := hP
  have hl := lv_entry ([.ref h0, .int x1, .int x2, .long x3]) (n := 6) (Nat.le_of_ble_eq_true rfl)
  rw [lg_entry_eq]
  generalize (lg_sl ([.ref h0, .int x1, .int x2, .long x3]) ++ List.replicate (6 - (lg_sl ([.ref h0, .int x1, .int x2, .long x3])).length) Slot.unset).toArray = ls at hl ⊢
  have hl : lv_has ls 6 [(0, .ref h0), (1, .int x1), (2, .int x2), (3, .long x3)] := hl
  clear hD0
  have hts := dr_words hts0 s.drawn
  have hE : ekK D T (s.setDrawn s.drawn) := ekK.same (u := s) rfl hE0
  have hown : (s.setDrawn s.drawn).vm.findClass RX13 = some m.cls := hown0
  refine lv_aload_n hx hb dX13_cell_0 rfl (lv_at hl 0 rfl) ?_
  refine lv_iload_n hx hb dX13_cell_1 rfl (lv_at hl 1 rfl) ?_
  refine lv_iload_n hx hb dX13_cell_2 rfl (lv_at hl 2 rfl) ?_
  refine vp_callSi (W.runV (As := [.int x1, .int x2]) (rest := []) ⟨hx, hb, hml, hown, hts⟩ (c_X13_wrong l D T h0 [.int (q 0), .int (q 1), .int (q 2), .int (q 3), .int (q 4), .int (q 5), .int (q 6), .int (q 7), .ref (a 8), .ref (a 9), .ref (a 10), .ref (a 11), .ref (a 12), .ref (a 13), .int (q 14), .long v, .long w, .ref (a 17), .ref (a 18), .ref (a 19), .ref (a 20), .ref (a 21), .ref (a 22), .ref (a 23), .int (q 24), .ref (a 25), .int (q 26), .ref (a 27), .int (q 28), .int (q 29), .int (q 30), .int (q 31), .int (q 32), .int (q 33), .ref (a 34), .ref (a 35), .ref (a 36), .ref (a 37), .ref (a 38), .ref (a 39), .ref (a 40), .int (q 41), .ref (a 42), .int (q 43), .int (q 44)] (a 34) f34 (a 35) f35 x1 x2 rfl rfl hsz) (cwV 2 hts gX13_cell_X13_wrong rfl rfl rfl hv_X13_wrong ⟨Nat.le_of_ble_eq_true rfl, Nat.le_of_ble_eq_true rfl⟩) (pR_V (q := (RX13, TX13, 45)) (ci := 10) (q0 := 0) hP hE rfl rfl [0, 1, 2] rfl) rfl rfl hl.1 rfl (lv_room (Nat.le_of_ble_eq_true rfl)) dX13_cell_3 ⟨Nat.le_of_ble_eq_true rfl, Nat.le_of_ble_eq_true rfl⟩) (fun r_1 hr_1 => ?_)
  refine lv_istore (lv' := [(5, .int r_1), (0, .ref h0), (1, .int x1), (2, .int x2), (3, .long x3)]) hx hb dX13_cell_6 hl (by decide +kernel) rfl (fun ls hl => ?_)
  refine lv_iload hx hb dX13_cell_8 (lv_at hl 0 rfl) ?_
  refine lv_if_eq (tgt := 16) hx hb dX13_cell_10 (by decide +kernel) (fun c_2 => ?_) (fun c_2 => ?_)
  · rw [fa_eq] at c_2
    try rw [ti_0] at c_2
    have hwr := hr_1.1 (by omega)
    have h30 : (30 * x1).toInt = 30 * x1.toInt := by rw [fb_mulI (by rw [ti_30]; omega) (by rw [ti_30]; omega), ti_30]
    refine lv_aload_n hx hb dX13_cell_16 rfl (lv_at hl 1 rfl) ?_
    refine va_get (D := D) (ci := 10) (v := .ref (a 34)) (C := RX13) (T := TX13) (N := 45) hx hb hts in_X13_cell_X13 hown hE.1 hP 0 rfl rfl 34 (by decide +kernel) (hts (.fieldLink RX13 104 "ClauseBookModel" "sorts" "[I") (List.mem_of_getElem? (i := 1) rfl)) (fun _ h9 => h9) rfl dX13_cell_17 ?_
    refine lv_iload_n hx hb dX13_cell_20 rfl (lv_at hl 2 rfl) ?_
    refine va_iald hx hb hE.1 hP 1 0 rfl rfl (by rw [vp_in_iff]; first | omega | (rw [fb_addI (by omega) (by omega)]; omega)) dX13_cell_21 ?_
    refine lv_topi (fun z_3 ez_3 => ?_)
    have htz_3 : z_3.toInt = (f34 (x1.toNatClampNeg)).toInt := by rw [ez_3]
    refine lv_if_ne (tgt := 36) hx hb dX13_cell_22 (by decide +kernel) (fun c_4 => ?_) (fun c_4 => ?_)
    · rw [fa_eq] at c_4
      try rw [ti_0] at c_4
      refine lv_aload_n hx hb dX13_cell_36 rfl (lv_at hl 1 rfl) ?_
      refine va_get (D := D) (ci := 10) (v := .ref (a 36)) (C := RX13) (T := TX13) (N := 45) hx hb hts in_X13_cell_X13 hown hE.1 hP 0 rfl rfl 36 (by decide +kernel) (hts (.fieldLink RX13 110 "ClauseBookModel" "whole" "[J") (List.mem_of_getElem? (i := 2) rfl)) (fun _ h9 => h9) rfl dX13_cell_37 ?_
      refine lv_bipush (v := 30) hx hb dX13_cell_40 (by decide +kernel) ?_
      refine lv_iload_n hx hb dX13_cell_42 rfl (lv_at hl 2 rfl) ?_
      refine lv_imul hx hb dX13_cell_43 ?_
      refine lv_iload_n hx hb dX13_cell_44 rfl (lv_at hl 3 rfl) ?_
      refine lv_iadd hx hb dX13_cell_45 ?_
      refine lv_lload_n hx hb dX13_cell_46 rfl (lv_at hl 4 rfl) ?_
      refine va_last hx hb hE.1 hP hD hS 3 1 rfl rfl (by rw [vp_in_iff]; first | omega | (rw [fb_addI (by omega) (by omega)]; omega)) dX13_cell_47 (fun H locs hP hD hS => ?_)
      obtain ⟨hP, hD⟩ := wPD [(h0, .inr (10, (Value.int (q 0) :: Value.int (q 1) :: Value.int (q 2) :: Value.int (q 3) :: Value.int (q 4) :: Value.int (q 5) :: Value.int (q 6) :: Value.int (q 7) :: Value.ref (a 8) :: Value.ref (a 9) :: Value.ref (a 10) :: Value.ref (a 11) :: Value.ref (a 12) :: Value.ref (a 13) :: Value.int (q 14) :: Value.long v :: Value.long w :: Value.ref (a 17) :: Value.ref (a 18) :: Value.ref (a 19) :: Value.ref (a 20) :: Value.ref (a 21) :: Value.ref (a 22) :: Value.ref (a 23) :: Value.int (q 24) :: Value.ref (a 25) :: Value.int (q 26) :: Value.ref (a 27) :: Value.int (q 28) :: Value.int (q 29) :: Value.int (q 30) :: Value.int (q 31) :: Value.int (q 32) :: Value.int (q 33) :: Value.ref (a 34) :: Value.ref (a 35) :: Value.ref (a 36) :: Value.ref (a 37) :: Value.ref (a 38) :: Value.ref (a 39) :: Value.ref (a 40) :: Value.int (q 41) :: Value.ref (a 42) :: Value.int (q 43) :: Value.int (q 44) :: []))), ((a 34), .inl (T 0, 4, .inl f34)), ((a 35), .inl (T 0, 4, .inl f35)), ((a 36), .inl (T 1, 120, .inr (.inl (vp_updL f36 (((30 * x1) + x2).toNatClampNeg) x3)))), ((a 37), .inl (T 3, 120, .inr (.inr (.inr (.inl f37)))))] hP hD rfl
      refine lv_aload_n hx hb dX13_cell_48 rfl (lv_at hl 1 rfl) ?_
      refine va_get (D := D) (ci := 10) (v := .ref (a 37)) (C := RX13) (T := TX13) (N := 45) hx hb hts in_X13_cell_X13 hown hE.1 hP 0 rfl rfl 37 (by decide +kernel) (hts (.fieldLink RX13 113 "ClauseBookModel" "host" "[D") (List.mem_of_getElem? (i := 3) rfl)) (fun _ h9 => h9) rfl dX13_cell_49 ?_
      refine lv_bipush (v := 30) hx hb dX13_cell_52 (by decide +kernel) ?_
      refine lv_iload_n hx hb dX13_cell_54 rfl (lv_at hl 2 rfl) ?_
      refine lv_imul hx hb dX13_cell_55 ?_
      refine lv_iload_n hx hb dX13_cell_56 rfl (lv_at hl 3 rfl) ?_
      refine lv_iadd hx hb dX13_cell_57 ?_
      refine lv_aload_n hx hb dX13_cell_58 rfl (lv_at hl 1 rfl) ?_
      refine va_get (D := D) (ci := 10) (v := .ref (a 34)) (C := RX13) (T := TX13) (N := 45) hx hb hts in_X13_cell_X13 hown hE.1 hP 0 rfl rfl 34 (by decide +kernel) (hts (.fieldLink RX13 104 "ClauseBookModel" "sorts" "[I") (List.mem_of_getElem? (i := 1) rfl)) (fun _ h9 => h9) rfl dX13_cell_59 ?_
      refine lv_iload_n hx hb dX13_cell_62 rfl (lv_at hl 2 rfl) ?_
      refine va_iald hx hb hE.1 hP 1 0 rfl rfl (by rw [vp_in_iff]; first | omega | (rw [fb_addI (by omega) (by omega)]; omega)) dX13_cell_63 ?_
      refine lv_topi (fun z_5 ez_5 => ?_)
      have htz_5 : z_5.toInt = (f34 (x1.toNatClampNeg)).toInt := by rw [ez_5]
      refine lv_iconst (v := 2) hx hb dX13_cell_64 (by decide +kernel) ?_
      refine lv_icmp_ne (tgt := 74) hx hb dX13_cell_65 (by decide +kernel) (fun c_6 => ?_) (fun c_6 => ?_)
      · rw [fa_eq] at c_6
        try rw [ti_2] at c_6
        refine lv_lload_n hx hb dX13_cell_74 rfl (lv_at hl 4 rfl) ?_
        refine lv_l2d hx hb dX13_cell_75 ?_
        refine va_dast hx hb hE.1 hP hD hS 4 3 rfl rfl (by rw [vp_in_iff]; first | omega | (rw [fb_addI (by omega) (by omega)]; omega)) dX13_cell_76 (fun H locs hP hD hS => ?_)
        obtain ⟨hP, hD⟩ := wPD [(h0, .inr (10, (Value.int (q 0) :: Value.int (q 1) :: Value.int (q 2) :: Value.int (q 3) :: Value.int (q 4) :: Value.int (q 5) :: Value.int (q 6) :: Value.int (q 7) :: Value.ref (a 8) :: Value.ref (a 9) :: Value.ref (a 10) :: Value.ref (a 11) :: Value.ref (a 12) :: Value.ref (a 13) :: Value.int (q 14) :: Value.long v :: Value.long w :: Value.ref (a 17) :: Value.ref (a 18) :: Value.ref (a 19) :: Value.ref (a 20) :: Value.ref (a 21) :: Value.ref (a 22) :: Value.ref (a 23) :: Value.int (q 24) :: Value.ref (a 25) :: Value.int (q 26) :: Value.ref (a 27) :: Value.int (q 28) :: Value.int (q 29) :: Value.int (q 30) :: Value.int (q 31) :: Value.int (q 32) :: Value.int (q 33) :: Value.ref (a 34) :: Value.ref (a 35) :: Value.ref (a 36) :: Value.ref (a 37) :: Value.ref (a 38) :: Value.ref (a 39) :: Value.ref (a 40) :: Value.int (q 41) :: Value.ref (a 42) :: Value.int (q 43) :: Value.int (q 44) :: []))), ((a 34), .inl (T 0, 4, .inl f34)), ((a 35), .inl (T 0, 4, .inl f35)), ((a 36), .inl (T 1, 120, .inr (.inl (vp_updL f36 (((30 * x1) + x2).toNatClampNeg) x3)))), ((a 37), .inl (T 3, 120, .inr (.inr (.inr (.inl (vf_upd f37 (((30 * x1) + x2).toNatClampNeg) (FP.l2d x3)))))))] hP hD rfl
        refine lv_iconst (v := 1) hx hb dX13_cell_77 (by decide +kernel) ?_
        refine W.endD hd0 ?_
        exact W.iret hx hb hr (fun t ht hW => ⟨⟨_, ((vp_updL f36 (((30 * x1) + x2).toNatClampNeg) x3), (vf_upd f37 (((30 * x1) + x2).toNatClampNeg) (FP.l2d x3))), rfl, (show (¬ (0 ≤ x1.toInt ∧ x1.toInt ≤ 3) → (1 : Int32).toInt = -2) ∧ ((0 ≤ x1.toInt ∧ x1.toInt ≤ 3) → ((f34 (x1.toNatClampNeg)).toInt < 0 → (1 : Int32).toInt = -11) ∧ (¬ (f34 (x1.toNatClampNeg)).toInt < 0 → ((0 ≤ x2.toInt ∧ x2.toInt < (f35 (x1.toNatClampNeg)).toInt) → ((f34 (x1.toNatClampNeg)).toInt = 0 ∧ ¬ x3.toInt = x3.toInt32.toInt → (1 : Int32).toInt = -5) ∧ (¬ ((f34 (x1.toNatClampNeg)).toInt = 0 ∧ ¬ x3.toInt = x3.toInt32.toInt) → (1 : Int32).toInt = 1)) ∧ (¬ (0 ≤ x2.toInt ∧ x2.toInt < (f35 (x1.toNatClampNeg)).toInt) → (1 : Int32).toInt = -12))) from (by have h9r : (1 : Int32).toInt = 1 := (by decide +kernel); omega)), by rw [ht]; exact hP.sub [0, 1, 2, 3, 4] rfl, hD.sub [0, 1, 2, 3, 4] (by decide +kernel) rfl⟩, hS.F ht⟩) hS.2.2 dX13_cell_78
      · rw [fa_eq] at c_6
        try rw [ti_2] at c_6
        refine lv_lload_n hx hb dX13_cell_68 rfl (lv_at hl 4 rfl) ?_
        refine lv_l2f hx hb dX13_cell_69 ?_
        refine lv_f2d_any hd0 lw_bits hx hb dX13_cell_70 (fun r_7 d_8 _ hd_8 => ?_)
        have hts := dr_words hts0 d_8
        have hE : ekK D T (s.setDrawn d_8) := ekK.same (u := s) rfl hE0
        have hown : (s.setDrawn d_8).vm.findClass RX13 = some m.cls := hown0
        refine lv_goto (tgt := 76) hx hb dX13_cell_71 (by decide +kernel) ?_
        refine va_dast hx hb hE.1 hP hD hS 4 3 rfl rfl (by rw [vp_in_iff]; first | omega | (rw [fb_addI (by omega) (by omega)]; omega)) dX13_cell_76 (fun H locs hP hD hS => ?_)
        obtain ⟨hP, hD⟩ := wPD [(h0, .inr (10, (Value.int (q 0) :: Value.int (q 1) :: Value.int (q 2) :: Value.int (q 3) :: Value.int (q 4) :: Value.int (q 5) :: Value.int (q 6) :: Value.int (q 7) :: Value.ref (a 8) :: Value.ref (a 9) :: Value.ref (a 10) :: Value.ref (a 11) :: Value.ref (a 12) :: Value.ref (a 13) :: Value.int (q 14) :: Value.long v :: Value.long w :: Value.ref (a 17) :: Value.ref (a 18) :: Value.ref (a 19) :: Value.ref (a 20) :: Value.ref (a 21) :: Value.ref (a 22) :: Value.ref (a 23) :: Value.int (q 24) :: Value.ref (a 25) :: Value.int (q 26) :: Value.ref (a 27) :: Value.int (q 28) :: Value.int (q 29) :: Value.int (q 30) :: Value.int (q 31) :: Value.int (q 32) :: Value.int (q 33) :: Value.ref (a 34) :: Value.ref (a 35) :: Value.ref (a 36) :: Value.ref (a 37) :: Value.ref (a 38) :: Value.ref (a 39) :: Value.ref (a 40) :: Value.int (q 41) :: Value.ref (a 42) :: Value.int (q 43) :: Value.int (q 44) :: []))), ((a 34), .inl (T 0, 4, .inl f34)), ((a 35), .inl (T 0, 4, .inl f35)), ((a 36), .inl (T 1, 120, .inr (.inl (vp_updL f36 (((30 * x1) + x2).toNatClampNeg) x3)))), ((a 37), .inl (T 3, 120, .inr (.inr (.inr (.inl (vf_upd f37 (((30 * x1) + x2).toNatClampNeg) r_7))))))] hP hD rfl
        refine lv_iconst (v := 1) hx hb dX13_cell_77 (by decide +kernel) ?_
        refine W.endD hd_8 ?_
        exact W.iret hx hb hr (fun t ht hW => ⟨⟨_, ((vp_updL f36 (((30 * x1) + x2).toNatClampNeg) x3), (vf_upd f37 (((30 * x1) + x2).toNatClampNeg) r_7)), rfl, (show (¬ (0 ≤ x1.toInt ∧ x1.toInt ≤ 3) → (1 : Int32).toInt = -2) ∧ ((0 ≤ x1.toInt ∧ x1.toInt ≤ 3) → ((f34 (x1.toNatClampNeg)).toInt < 0 → (1 : Int32).toInt = -11) ∧ (¬ (f34 (x1.toNatClampNeg)).toInt < 0 → ((0 ≤ x2.toInt ∧ x2.toInt < (f35 (x1.toNatClampNeg)).toInt) → ((f34 (x1.toNatClampNeg)).toInt = 0 ∧ ¬ x3.toInt = x3.toInt32.toInt → (1 : Int32).toInt = -5) ∧ (¬ ((f34 (x1.toNatClampNeg)).toInt = 0 ∧ ¬ x3.toInt = x3.toInt32.toInt) → (1 : Int32).toInt = 1)) ∧ (¬ (0 ≤ x2.toInt ∧ x2.toInt < (f35 (x1.toNatClampNeg)).toInt) → (1 : Int32).toInt = -12))) from (by have h9r : (1 : Int32).toInt = 1 := (by decide +kernel); omega)), by rw [ht]; exact hP.sub [0, 1, 2, 3, 4] rfl, hD.sub [0, 1, 2, 3, 4] (by decide +kernel) rfl⟩, hS.F ht⟩) hS.2.2 dX13_cell_78
    · rw [fa_eq] at c_4
      try rw [ti_0] at c_4
      refine lv_lload_n hx hb dX13_cell_25 rfl (lv_at hl 4 rfl) ?_
      refine lv_lload_n hx hb dX13_cell_26 rfl (lv_at hl 4 rfl) ?_
      refine lv_l2i hx hb dX13_cell_27 rfl ?_
      refine lv_i2l hx hb dX13_cell_28 rfl ?_
      refine W.lcmp hx hb dX13_cell_29 ?_
      refine lv_if_eq (tgt := 36) hx hb dX13_cell_30 (by decide +kernel) (fun c_9 => ?_) (fun c_9 => ?_)
      · rw [lcmp_eq] at c_9
        try rw [((Int32.toInt_toInt64 _).trans rfl)] at c_9
        refine lv_aload_n hx hb dX13_cell_36 rfl (lv_at hl 1 rfl) ?_
        refine va_get (D := D) (ci := 10) (v := .ref (a 36)) (C := RX13) (T := TX13) (N := 45) hx hb hts in_X13_cell_X13 hown hE.1 hP 0 rfl rfl 36 (by decide +kernel) (hts (.fieldLink RX13 110 "ClauseBookModel" "whole" "[J") (List.mem_of_getElem? (i := 2) rfl)) (fun _ h9 => h9) rfl dX13_cell_37 ?_
        refine lv_bipush (v := 30) hx hb dX13_cell_40 (by decide +kernel) ?_
        refine lv_iload_n hx hb dX13_cell_42 rfl (lv_at hl 2 rfl) ?_
        refine lv_imul hx hb dX13_cell_43 ?_
        refine lv_iload_n hx hb dX13_cell_44 rfl (lv_at hl 3 rfl) ?_
        refine lv_iadd hx hb dX13_cell_45 ?_
        refine lv_lload_n hx hb dX13_cell_46 rfl (lv_at hl 4 rfl) ?_
        refine va_last hx hb hE.1 hP hD hS 3 1 rfl rfl (by rw [vp_in_iff]; first | omega | (rw [fb_addI (by omega) (by omega)]; omega)) dX13_cell_47 (fun H locs hP hD hS => ?_)
        obtain ⟨hP, hD⟩ := wPD [(h0, .inr (10, (Value.int (q 0) :: Value.int (q 1) :: Value.int (q 2) :: Value.int (q 3) :: Value.int (q 4) :: Value.int (q 5) :: Value.int (q 6) :: Value.int (q 7) :: Value.ref (a 8) :: Value.ref (a 9) :: Value.ref (a 10) :: Value.ref (a 11) :: Value.ref (a 12) :: Value.ref (a 13) :: Value.int (q 14) :: Value.long v :: Value.long w :: Value.ref (a 17) :: Value.ref (a 18) :: Value.ref (a 19) :: Value.ref (a 20) :: Value.ref (a 21) :: Value.ref (a 22) :: Value.ref (a 23) :: Value.int (q 24) :: Value.ref (a 25) :: Value.int (q 26) :: Value.ref (a 27) :: Value.int (q 28) :: Value.int (q 29) :: Value.int (q 30) :: Value.int (q 31) :: Value.int (q 32) :: Value.int (q 33) :: Value.ref (a 34) :: Value.ref (a 35) :: Value.ref (a 36) :: Value.ref (a 37) :: Value.ref (a 38) :: Value.ref (a 39) :: Value.ref (a 40) :: Value.int (q 41) :: Value.ref (a 42) :: Value.int (q 43) :: Value.int (q 44) :: []))), ((a 34), .inl (T 0, 4, .inl f34)), ((a 35), .inl (T 0, 4, .inl f35)), ((a 36), .inl (T 1, 120, .inr (.inl (vp_updL f36 (((30 * x1) + x2).toNatClampNeg) x3)))), ((a 37), .inl (T 3, 120, .inr (.inr (.inr (.inl f37)))))] hP hD rfl
        refine lv_aload_n hx hb dX13_cell_48 rfl (lv_at hl 1 rfl) ?_
        refine va_get (D := D) (ci := 10) (v := .ref (a 37)) (C := RX13) (T := TX13) (N := 45) hx hb hts in_X13_cell_X13 hown hE.1 hP 0 rfl rfl 37 (by decide +kernel) (hts (.fieldLink RX13 113 "ClauseBookModel" "host" "[D") (List.mem_of_getElem? (i := 3) rfl)) (fun _ h9 => h9) rfl dX13_cell_49 ?_
        refine lv_bipush (v := 30) hx hb dX13_cell_52 (by decide +kernel) ?_
        refine lv_iload_n hx hb dX13_cell_54 rfl (lv_at hl 2 rfl) ?_
        refine lv_imul hx hb dX13_cell_55 ?_
        refine lv_iload_n hx hb dX13_cell_56 rfl (lv_at hl 3 rfl) ?_
        refine lv_iadd hx hb dX13_cell_57 ?_
        refine lv_aload_n hx hb dX13_cell_58 rfl (lv_at hl 1 rfl) ?_
        refine va_get (D := D) (ci := 10) (v := .ref (a 34)) (C := RX13) (T := TX13) (N := 45) hx hb hts in_X13_cell_X13 hown hE.1 hP 0 rfl rfl 34 (by decide +kernel) (hts (.fieldLink RX13 104 "ClauseBookModel" "sorts" "[I") (List.mem_of_getElem? (i := 1) rfl)) (fun _ h9 => h9) rfl dX13_cell_59 ?_
        refine lv_iload_n hx hb dX13_cell_62 rfl (lv_at hl 2 rfl) ?_
        refine va_iald hx hb hE.1 hP 1 0 rfl rfl (by rw [vp_in_iff]; first | omega | (rw [fb_addI (by omega) (by omega)]; omega)) dX13_cell_63 ?_
        refine lv_topi (fun z_10 ez_10 => ?_)
        have htz_10 : z_10.toInt = (f34 (x1.toNatClampNeg)).toInt := by rw [ez_10]
        refine lv_iconst (v := 2) hx hb dX13_cell_64 (by decide +kernel) ?_
        refine lv_icmp_ne (tgt := 74) hx hb dX13_cell_65 (by decide +kernel) (fun c_11 => ?_) (fun c_11 => ?_)
        · rw [fa_eq] at c_11
          try rw [ti_2] at c_11
          refine lv_lload_n hx hb dX13_cell_74 rfl (lv_at hl 4 rfl) ?_
          refine lv_l2d hx hb dX13_cell_75 ?_
          refine va_dast hx hb hE.1 hP hD hS 4 3 rfl rfl (by rw [vp_in_iff]; first | omega | (rw [fb_addI (by omega) (by omega)]; omega)) dX13_cell_76 (fun H locs hP hD hS => ?_)
          obtain ⟨hP, hD⟩ := wPD [(h0, .inr (10, (Value.int (q 0) :: Value.int (q 1) :: Value.int (q 2) :: Value.int (q 3) :: Value.int (q 4) :: Value.int (q 5) :: Value.int (q 6) :: Value.int (q 7) :: Value.ref (a 8) :: Value.ref (a 9) :: Value.ref (a 10) :: Value.ref (a 11) :: Value.ref (a 12) :: Value.ref (a 13) :: Value.int (q 14) :: Value.long v :: Value.long w :: Value.ref (a 17) :: Value.ref (a 18) :: Value.ref (a 19) :: Value.ref (a 20) :: Value.ref (a 21) :: Value.ref (a 22) :: Value.ref (a 23) :: Value.int (q 24) :: Value.ref (a 25) :: Value.int (q 26) :: Value.ref (a 27) :: Value.int (q 28) :: Value.int (q 29) :: Value.int (q 30) :: Value.int (q 31) :: Value.int (q 32) :: Value.int (q 33) :: Value.ref (a 34) :: Value.ref (a 35) :: Value.ref (a 36) :: Value.ref (a 37) :: Value.ref (a 38) :: Value.ref (a 39) :: Value.ref (a 40) :: Value.int (q 41) :: Value.ref (a 42) :: Value.int (q 43) :: Value.int (q 44) :: []))), ((a 34), .inl (T 0, 4, .inl f34)), ((a 35), .inl (T 0, 4, .inl f35)), ((a 36), .inl (T 1, 120, .inr (.inl (vp_updL f36 (((30 * x1) + x2).toNatClampNeg) x3)))), ((a 37), .inl (T 3, 120, .inr (.inr (.inr (.inl (vf_upd f37 (((30 * x1) + x2).toNatClampNeg) (FP.l2d x3)))))))] hP hD rfl
          refine lv_iconst (v := 1) hx hb dX13_cell_77 (by decide +kernel) ?_
          refine W.endD hd0 ?_
          exact W.iret hx hb hr (fun t ht hW => ⟨⟨_, ((vp_updL f36 (((30 * x1) + x2).toNatClampNeg) x3), (vf_upd f37 (((30 * x1) + x2).toNatClampNeg) (FP.l2d x3))), rfl, (show (¬ (0 ≤ x1.toInt ∧ x1.toInt ≤ 3) → (1 : Int32).toInt = -2) ∧ ((0 ≤ x1.toInt ∧ x1.toInt ≤ 3) → ((f34 (x1.toNatClampNeg)).toInt < 0 → (1 : Int32).toInt = -11) ∧ (¬ (f34 (x1.toNatClampNeg)).toInt < 0 → ((0 ≤ x2.toInt ∧ x2.toInt < (f35 (x1.toNatClampNeg)).toInt) → ((f34 (x1.toNatClampNeg)).toInt = 0 ∧ ¬ x3.toInt = x3.toInt32.toInt → (1 : Int32).toInt = -5) ∧ (¬ ((f34 (x1.toNatClampNeg)).toInt = 0 ∧ ¬ x3.toInt = x3.toInt32.toInt) → (1 : Int32).toInt = 1)) ∧ (¬ (0 ≤ x2.toInt ∧ x2.toInt < (f35 (x1.toNatClampNeg)).toInt) → (1 : Int32).toInt = -12))) from (by have h9r : (1 : Int32).toInt = 1 := (by decide +kernel); omega)), by rw [ht]; exact hP.sub [0, 1, 2, 3, 4] rfl, hD.sub [0, 1, 2, 3, 4] (by decide +kernel) rfl⟩, hS.F ht⟩) hS.2.2 dX13_cell_78
        · rw [fa_eq] at c_11
          try rw [ti_2] at c_11
          refine lv_lload_n hx hb dX13_cell_68 rfl (lv_at hl 4 rfl) ?_
          refine lv_l2f hx hb dX13_cell_69 ?_
          refine lv_f2d_any hd0 lw_bits hx hb dX13_cell_70 (fun r_12 d_13 _ hd_13 => ?_)
          have hts := dr_words hts0 d_13
          have hE : ekK D T (s.setDrawn d_13) := ekK.same (u := s) rfl hE0
          have hown : (s.setDrawn d_13).vm.findClass RX13 = some m.cls := hown0
          refine lv_goto (tgt := 76) hx hb dX13_cell_71 (by decide +kernel) ?_
          refine va_dast hx hb hE.1 hP hD hS 4 3 rfl rfl (by rw [vp_in_iff]; first | omega | (rw [fb_addI (by omega) (by omega)]; omega)) dX13_cell_76 (fun H locs hP hD hS => ?_)
          obtain ⟨hP, hD⟩ := wPD [(h0, .inr (10, (Value.int (q 0) :: Value.int (q 1) :: Value.int (q 2) :: Value.int (q 3) :: Value.int (q 4) :: Value.int (q 5) :: Value.int (q 6) :: Value.int (q 7) :: Value.ref (a 8) :: Value.ref (a 9) :: Value.ref (a 10) :: Value.ref (a 11) :: Value.ref (a 12) :: Value.ref (a 13) :: Value.int (q 14) :: Value.long v :: Value.long w :: Value.ref (a 17) :: Value.ref (a 18) :: Value.ref (a 19) :: Value.ref (a 20) :: Value.ref (a 21) :: Value.ref (a 22) :: Value.ref (a 23) :: Value.int (q 24) :: Value.ref (a 25) :: Value.int (q 26) :: Value.ref (a 27) :: Value.int (q 28) :: Value.int (q 29) :: Value.int (q 30) :: Value.int (q 31) :: Value.int (q 32) :: Value.int (q 33) :: Value.ref (a 34) :: Value.ref (a 35) :: Value.ref (a 36) :: Value.ref (a 37) :: Value.ref (a 38) :: Value.ref (a 39) :: Value.ref (a 40) :: Value.int (q 41) :: Value.ref (a 42) :: Value.int (q 43) :: Value.int (q 44) :: []))), ((a 34), .inl (T 0, 4, .inl f34)), ((a 35), .inl (T 0, 4, .inl f35)), ((a 36), .inl (T 1, 120, .inr (.inl (vp_updL f36 (((30 * x1) + x2).toNatClampNeg) x3)))), ((a 37), .inl (T 3, 120, .inr (.inr (.inr (.inl (vf_upd f37 (((30 * x1) + x2).toNatClampNeg) r_12))))))] hP hD rfl
          refine lv_iconst (v := 1) hx hb dX13_cell_77 (by decide +kernel) ?_
          refine W.endD hd_13 ?_
          exact W.iret hx hb hr (fun t ht hW => ⟨⟨_, ((vp_updL f36 (((30 * x1) + x2).toNatClampNeg) x3), (vf_upd f37 (((30 * x1) + x2).toNatClampNeg) r_12)), rfl, (show (¬ (0 ≤ x1.toInt ∧ x1.toInt ≤ 3) → (1 : Int32).toInt = -2) ∧ ((0 ≤ x1.toInt ∧ x1.toInt ≤ 3) → ((f34 (x1.toNatClampNeg)).toInt < 0 → (1 : Int32).toInt = -11) ∧ (¬ (f34 (x1.toNatClampNeg)).toInt < 0 → ((0 ≤ x2.toInt ∧ x2.toInt < (f35 (x1.toNatClampNeg)).toInt) → ((f34 (x1.toNatClampNeg)).toInt = 0 ∧ ¬ x3.toInt = x3.toInt32.toInt → (1 : Int32).toInt = -5) ∧ (¬ ((f34 (x1.toNatClampNeg)).toInt = 0 ∧ ¬ x3.toInt = x3.toInt32.toInt) → (1 : Int32).toInt = 1)) ∧ (¬ (0 ≤ x2.toInt ∧ x2.toInt < (f35 (x1.toNatClampNeg)).toInt) → (1 : Int32).toInt = -12))) from (by have h9r : (1 : Int32).toInt = 1 := (by decide +kernel); omega)), by rw [ht]; exact hP.sub [0, 1, 2, 3, 4] rfl, hD.sub [0, 1, 2, 3, 4] (by decide +kernel) rfl⟩, hS.F ht⟩) hS.2.2 dX13_cell_78
      · rw [lcmp_eq] at c_9
        try rw [((Int32.toInt_toInt64 _).trans rfl)] at c_9
        refine lv_bipush (v := (-5)) hx hb dX13_cell_33 (by decide +kernel) ?_
        refine W.endD hd0 ?_
        exact W.iret hx hb hr (fun t ht hW => ⟨⟨_, (f36, f37), rfl, (show (¬ (0 ≤ x1.toInt ∧ x1.toInt ≤ 3) → ((-5) : Int32).toInt = -2) ∧ ((0 ≤ x1.toInt ∧ x1.toInt ≤ 3) → ((f34 (x1.toNatClampNeg)).toInt < 0 → ((-5) : Int32).toInt = -11) ∧ (¬ (f34 (x1.toNatClampNeg)).toInt < 0 → ((0 ≤ x2.toInt ∧ x2.toInt < (f35 (x1.toNatClampNeg)).toInt) → ((f34 (x1.toNatClampNeg)).toInt = 0 ∧ ¬ x3.toInt = x3.toInt32.toInt → ((-5) : Int32).toInt = -5) ∧ (¬ ((f34 (x1.toNatClampNeg)).toInt = 0 ∧ ¬ x3.toInt = x3.toInt32.toInt) → ((-5) : Int32).toInt = 1)) ∧ (¬ (0 ≤ x2.toInt ∧ x2.toInt < (f35 (x1.toNatClampNeg)).toInt) → ((-5) : Int32).toInt = -12))) from (by have h9r : ((-5) : Int32).toInt = -5 := (by decide +kernel); omega)), by rw [ht]; exact hP.sub [0, 1, 2, 3, 4] rfl, hD.sub [0, 1, 2, 3, 4] (by decide +kernel) rfl⟩, hS.F ht⟩) hS.2.2 dX13_cell_35
  · rw [fa_eq] at c_2
    try rw [ti_0] at c_2
    refine lv_iload hx hb dX13_cell_13 (lv_at hl 0 rfl) ?_
    refine W.endD hd0 ?_
    exact W.iret hx hb hr (fun t ht hW => ⟨⟨_, (f36, f37), rfl, (show (¬ (0 ≤ x1.toInt ∧ x1.toInt ≤ 3) → r_1.toInt = -2) ∧ ((0 ≤ x1.toInt ∧ x1.toInt ≤ 3) → ((f34 (x1.toNatClampNeg)).toInt < 0 → r_1.toInt = -11) ∧ (¬ (f34 (x1.toNatClampNeg)).toInt < 0 → ((0 ≤ x2.toInt ∧ x2.toInt < (f35 (x1.toNatClampNeg)).toInt) → ((f34 (x1.toNatClampNeg)).toInt = 0 ∧ ¬ x3.toInt = x3.toInt32.toInt → r_1.toInt = -5) ∧ (¬ ((f34 (x1.toNatClampNeg)).toInt = 0 ∧ ¬ x3.toInt = x3.toInt32.toInt) → r_1.toInt = 1)) ∧ (¬ (0 ≤ x2.toInt ∧ x2.toInt < (f35 (x1.toNatClampNeg)).toInt) → r_1.toInt = -12))) from (by omega)), by rw [ht]; exact hP.sub [0, 1, 2, 3, 4] rfl, hD.sub [0, 1, 2, 3, 4] (by decide +kernel) rfl⟩, hS.F ht⟩) hS.2.2 dX13_cell_15
theorem dX13_halve_0 : decode cX13_halve 0 = .ok (.aload_n 0, 1) := by decide +kernel
theorem dX13_halve_1 : decode cX13_halve 1 = .ok (.iload_n 1, 1) := by decide +kernel
theorem dX13_halve_11 : decode cX13_halve 11 = .ok (.iload_n 3, 1) := by decide +kernel
theorem dX13_halve_12 : decode cX13_halve 12 = .ok (.ireturn, 1) := by decide +kernel
theorem dX13_halve_13 : decode cX13_halve 13 = .ok (.bipush 30, 2) := by decide +kernel
theorem dX13_halve_15 : decode cX13_halve 15 = .ok (.iload_n 1, 1) := by decide +kernel
theorem dX13_halve_16 : decode cX13_halve 16 = .ok (.imul, 1) := by decide +kernel
theorem dX13_halve_17 : decode cX13_halve 17 = .ok (.iload_n 2, 1) := by decide +kernel
theorem dX13_halve_18 : decode cX13_halve 18 = .ok (.iadd, 1) := by decide +kernel
theorem dX13_halve_19 : decode cX13_halve 19 = .ok (.istore 4, 2) := by decide +kernel
theorem dX13_halve_2 : decode cX13_halve 2 = .ok (.iload_n 2, 1) := by decide +kernel
theorem dX13_halve_21 : decode cX13_halve 21 = .ok (.aload_n 0, 1) := by decide +kernel
theorem dX13_halve_22 : decode cX13_halve 22 = .ok (.getfield 110, 3) := by decide +kernel
theorem dX13_halve_25 : decode cX13_halve 25 = .ok (.iload 4, 2) := by decide +kernel
theorem dX13_halve_27 : decode cX13_halve 27 = .ok (.aload_n 0, 1) := by decide +kernel
theorem dX13_halve_28 : decode cX13_halve 28 = .ok (.getfield 110, 3) := by decide +kernel
theorem dX13_halve_3 : decode cX13_halve 3 = .ok (.invokevirtual 410, 3) := by decide +kernel
theorem dX13_halve_31 : decode cX13_halve 31 = .ok (.iload 4, 2) := by decide +kernel
theorem dX13_halve_33 : decode cX13_halve 33 = .ok (.laload, 1) := by decide +kernel
theorem dX13_halve_34 : decode cX13_halve 34 = .ok (.ldc2_w 184, 3) := by decide +kernel
theorem dX13_halve_37 : decode cX13_halve 37 = .ok (.ldiv, 1) := by decide +kernel
theorem dX13_halve_38 : decode cX13_halve 38 = .ok (.lastore, 1) := by decide +kernel
theorem dX13_halve_39 : decode cX13_halve 39 = .ok (.aload_n 0, 1) := by decide +kernel
theorem dX13_halve_40 : decode cX13_halve 40 = .ok (.getfield 113, 3) := by decide +kernel
theorem dX13_halve_43 : decode cX13_halve 43 = .ok (.iload 4, 2) := by decide +kernel
theorem dX13_halve_45 : decode cX13_halve 45 = .ok (.aload_n 0, 1) := by decide +kernel
theorem dX13_halve_46 : decode cX13_halve 46 = .ok (.getfield 104, 3) := by decide +kernel
theorem dX13_halve_49 : decode cX13_halve 49 = .ok (.iload_n 1, 1) := by decide +kernel
theorem dX13_halve_50 : decode cX13_halve 50 = .ok (.iaload, 1) := by decide +kernel
theorem dX13_halve_51 : decode cX13_halve 51 = .ok (.iconst 2, 1) := by decide +kernel
theorem dX13_halve_52 : decode cX13_halve 52 = .ok (.if_icmp .ne 17, 3) := by decide +kernel
theorem dX13_halve_55 : decode cX13_halve 55 = .ok (.aload_n 0, 1) := by decide +kernel
theorem dX13_halve_56 : decode cX13_halve 56 = .ok (.getfield 113, 3) := by decide +kernel
theorem dX13_halve_59 : decode cX13_halve 59 = .ok (.iload 4, 2) := by decide +kernel
theorem dX13_halve_6 : decode cX13_halve 6 = .ok (.istore_n 3, 1) := by decide +kernel
theorem dX13_halve_61 : decode cX13_halve 61 = .ok (.daload, 1) := by decide +kernel
theorem dX13_halve_62 : decode cX13_halve 62 = .ok (.d2f, 1) := by decide +kernel
theorem dX13_halve_63 : decode cX13_halve 63 = .ok (.fconst 2, 1) := by decide +kernel
theorem dX13_halve_64 : decode cX13_halve 64 = .ok (.fdiv, 1) := by decide +kernel
theorem dX13_halve_65 : decode cX13_halve 65 = .ok (.f2d, 1) := by decide +kernel
theorem dX13_halve_66 : decode cX13_halve 66 = .ok (.goto 14, 3) := by decide +kernel
theorem dX13_halve_69 : decode cX13_halve 69 = .ok (.aload_n 0, 1) := by decide +kernel
theorem dX13_halve_7 : decode cX13_halve 7 = .ok (.iload_n 3, 1) := by decide +kernel
theorem dX13_halve_70 : decode cX13_halve 70 = .ok (.getfield 113, 3) := by decide +kernel
theorem dX13_halve_73 : decode cX13_halve 73 = .ok (.iload 4, 2) := by decide +kernel
theorem dX13_halve_75 : decode cX13_halve 75 = .ok (.daload, 1) := by decide +kernel
theorem dX13_halve_76 : decode cX13_halve 76 = .ok (.ldc2_w 415, 3) := by decide +kernel
theorem dX13_halve_79 : decode cX13_halve 79 = .ok (.ddiv, 1) := by decide +kernel
theorem dX13_halve_8 : decode cX13_halve 8 = .ok (.ifCond .eq 5, 3) := by decide +kernel
theorem dX13_halve_80 : decode cX13_halve 80 = .ok (.dastore, 1) := by decide +kernel
theorem dX13_halve_81 : decode cX13_halve 81 = .ok (.iconst 1, 1) := by decide +kernel
theorem dX13_halve_82 : decode cX13_halve 82 = .ok (.ireturn, 1) := by decide +kernel
set_option maxRecDepth 20000 in
theorem ggX13_halve_X13_wrong : GoodIn wsX13_halve wsX13_wrong := goodIn_r _ [10, 4, 11, 12, 13, 9, 14, 15, 16, 17, 18, 19, 20, 21, 22, 23, 24, 25, 26, 27, 28, 29, 30, 31, 32, 33, 34, 35, 36, 37, 38, 39, 40, 41, 42, 43, 44, 45, 46, 47, 48, 49, 50, 51, 52, 53, 54, 55, 56, 57, 58, 59, 60, 61, 62, 63] rfl (by decide +kernel)
set_option maxRecDepth 20000 in
theorem gX13_halve_X13_wrong : GoodIn wsX13_halve (wsV RX13 410 RX13 yX13_wrong wsX13_wrong) := goodIn_app (goodIn_r _ [6, 7, 8, 9] rfl (by decide +kernel)) ggX13_halve_X13_wrong
set_option maxRecDepth 20000 in
theorem in_X13_halve_X13 : ∀ w ∈ wsX130, w ∈ wsX13_halve := sub_r [19, 20, 21, 22, 23, 24, 25, 26, 27, 28, 29, 30, 31, 32, 33, 34, 35, 36, 37, 38, 39, 40, 41, 42, 43, 44, 45, 46, 47, 48, 49, 50, 51, 52, 53, 54, 55, 56, 57, 58, 59, 60, 61, 62, 63] rfl
set_option maxHeartbeats 4000000 in
set_option maxRecDepth 100000 in
theorem c_X13_halve (l : Launch) (D : va_G) (T : Nat → ClassId) (sz : Nat) (h0 : Nat) (q : Nat → Int32) (v : Int64) (w : Int64) (a : Nat → Nat) (f34 : Nat → Int32) (f35 : Nat → Int32) (f36 : Nat → Int64) (f37 : Nat → UInt64) (x1 : Int32) (x2 : Int32) (hsz : ∀ k : Nat, k < 4 → 0 ≤ (f35 k).toInt ∧ (f35 k).toInt ≤ 30) : MetD lw_cs l yX13_halve wsX13_halve ({ frames := 3, cells := 0, slots := 0, locals := 67 }) (pW [.ref h0, .int x1, .int x2] D T [(h0, .inr (10, (Value.int (q 0) :: Value.int (q 1) :: Value.int (q 2) :: Value.int (q 3) :: Value.int (q 4) :: Value.int (q 5) :: Value.int (q 6) :: Value.int (q 7) :: Value.ref (a 8) :: Value.ref (a 9) :: Value.ref (a 10) :: Value.ref (a 11) :: Value.ref (a 12) :: Value.ref (a 13) :: Value.int (q 14) :: Value.long v :: Value.long w :: Value.ref (a 17) :: Value.ref (a 18) :: Value.ref (a 19) :: Value.ref (a 20) :: Value.ref (a 21) :: Value.ref (a 22) :: Value.ref (a 23) :: Value.int (q 24) :: Value.ref (a 25) :: Value.int (q 26) :: Value.ref (a 27) :: Value.int (q 28) :: Value.int (q 29) :: Value.int (q 30) :: Value.int (q 31) :: Value.int (q 32) :: Value.int (q 33) :: Value.ref (a 34) :: Value.ref (a 35) :: Value.ref (a 36) :: Value.ref (a 37) :: Value.ref (a 38) :: Value.ref (a 39) :: Value.ref (a 40) :: Value.int (q 41) :: Value.ref (a 42) :: Value.int (q 43) :: Value.int (q 44) :: []))), ((a 34), .inl (T 0, 4, .inl f34)), ((a 35), .inl (T 0, 4, .inl f35)), ((a 36), .inl (T 1, 120, .inr (.inl f36))), ((a 37), .inl (T 3, 120, .inr (.inr (.inr (.inl f37)))))] sz) (va_Qi (fun (r : Int32) (u : (Nat → Int64) × (Nat → UInt64)) => ((¬ (0 ≤ x1.toInt ∧ x1.toInt ≤ 3) → r.toInt = -2) ∧ ((0 ≤ x1.toInt ∧ x1.toInt ≤ 3) → ((f34 (x1.toNatClampNeg)).toInt < 0 → r.toInt = -11) ∧ (¬ (f34 (x1.toNatClampNeg)).toInt < 0 → ((0 ≤ x2.toInt ∧ x2.toInt < (f35 (x1.toNatClampNeg)).toInt) → r.toInt = 1) ∧ (¬ (0 ≤ x2.toInt ∧ x2.toInt < (f35 (x1.toNatClampNeg)).toInt) → r.toInt = -12))))) (bW D (va_A [(h0, .inr (10, (Value.int (q 0) :: Value.int (q 1) :: Value.int (q 2) :: Value.int (q 3) :: Value.int (q 4) :: Value.int (q 5) :: Value.int (q 6) :: Value.int (q 7) :: Value.ref (a 8) :: Value.ref (a 9) :: Value.ref (a 10) :: Value.ref (a 11) :: Value.ref (a 12) :: Value.ref (a 13) :: Value.int (q 14) :: Value.long v :: Value.long w :: Value.ref (a 17) :: Value.ref (a 18) :: Value.ref (a 19) :: Value.ref (a 20) :: Value.ref (a 21) :: Value.ref (a 22) :: Value.ref (a 23) :: Value.int (q 24) :: Value.ref (a 25) :: Value.int (q 26) :: Value.ref (a 27) :: Value.int (q 28) :: Value.int (q 29) :: Value.int (q 30) :: Value.int (q 31) :: Value.int (q 32) :: Value.int (q 33) :: Value.ref (a 34) :: Value.ref (a 35) :: Value.ref (a 36) :: Value.ref (a 37) :: Value.ref (a 38) :: Value.ref (a 39) :: Value.ref (a 40) :: Value.int (q 41) :: Value.ref (a 42) :: Value.int (q 43) :: Value.int (q 44) :: []))), ((a 34), .inl (T 0, 4, .inl f34)), ((a 35), .inl (T 0, 4, .inl f35)), ((a 36), .inl (T 1, 120, .inr (.inl f36))), ((a 37), .inl (T 3, 120, .inr (.inr (.inr (.inl f37)))))] sz) (fun (u : (Nat → Int64) × (Nat → UInt64)) => [(h0, .inr (10, (Value.int (q 0) :: Value.int (q 1) :: Value.int (q 2) :: Value.int (q 3) :: Value.int (q 4) :: Value.int (q 5) :: Value.int (q 6) :: Value.int (q 7) :: Value.ref (a 8) :: Value.ref (a 9) :: Value.ref (a 10) :: Value.ref (a 11) :: Value.ref (a 12) :: Value.ref (a 13) :: Value.int (q 14) :: Value.long v :: Value.long w :: Value.ref (a 17) :: Value.ref (a 18) :: Value.ref (a 19) :: Value.ref (a 20) :: Value.ref (a 21) :: Value.ref (a 22) :: Value.ref (a 23) :: Value.int (q 24) :: Value.ref (a 25) :: Value.int (q 26) :: Value.ref (a 27) :: Value.int (q 28) :: Value.int (q 29) :: Value.int (q 30) :: Value.int (q 31) :: Value.int (q 32) :: Value.int (q 33) :: Value.ref (a 34) :: Value.ref (a 35) :: Value.ref (a 36) :: Value.ref (a 37) :: Value.ref (a 38) :: Value.ref (a 39) :: Value.ref (a 40) :: Value.int (q 41) :: Value.ref (a 42) :: Value.int (q 43) :: Value.int (q 44) :: []))), ((a 34), .inl (T 0, 4, .inl f34)), ((a 35), .inl (T 0, 4, .inl f35)), ((a 36), .inl (T 1, 120, .inr (.inl u.1))), ((a 37), .inl (T 3, 120, .inr (.inr (.inr (.inl u.2)))))])) (va_A [(h0, .inr (10, (Value.int (q 0) :: Value.int (q 1) :: Value.int (q 2) :: Value.int (q 3) :: Value.int (q 4) :: Value.int (q 5) :: Value.int (q 6) :: Value.int (q 7) :: Value.ref (a 8) :: Value.ref (a 9) :: Value.ref (a 10) :: Value.ref (a 11) :: Value.ref (a 12) :: Value.ref (a 13) :: Value.int (q 14) :: Value.long v :: Value.long w :: Value.ref (a 17) :: Value.ref (a 18) :: Value.ref (a 19) :: Value.ref (a 20) :: Value.ref (a 21) :: Value.ref (a 22) :: Value.ref (a 23) :: Value.int (q 24) :: Value.ref (a 25) :: Value.int (q 26) :: Value.ref (a 27) :: Value.int (q 28) :: Value.int (q 29) :: Value.int (q 30) :: Value.int (q 31) :: Value.int (q 32) :: Value.int (q 33) :: Value.ref (a 34) :: Value.ref (a 35) :: Value.ref (a 36) :: Value.ref (a 37) :: Value.ref (a 38) :: Value.ref (a 39) :: Value.ref (a 40) :: Value.int (q 41) :: Value.ref (a 42) :: Value.int (q 43) :: Value.int (q 44) :: []))), ((a 34), .inl (T 0, 4, .inl f34)), ((a 35), .inl (T 0, 4, .inl f35)), ((a 36), .inl (T 1, 120, .inr (.inl f36))), ((a 37), .inl (T 3, 120, .inr (.inr (.inr (.inl f37)))))] sz)) 0 0 (va_A [(h0, .inr (10, (Value.int (q 0) :: Value.int (q 1) :: Value.int (q 2) :: Value.int (q 3) :: Value.int (q 4) :: Value.int (q 5) :: Value.int (q 6) :: Value.int (q 7) :: Value.ref (a 8) :: Value.ref (a 9) :: Value.ref (a 10) :: Value.ref (a 11) :: Value.ref (a 12) :: Value.ref (a 13) :: Value.int (q 14) :: Value.long v :: Value.long w :: Value.ref (a 17) :: Value.ref (a 18) :: Value.ref (a 19) :: Value.ref (a 20) :: Value.ref (a 21) :: Value.ref (a 22) :: Value.ref (a 23) :: Value.int (q 24) :: Value.ref (a 25) :: Value.int (q 26) :: Value.ref (a 27) :: Value.int (q 28) :: Value.int (q 29) :: Value.int (q 30) :: Value.int (q 31) :: Value.int (q 32) :: Value.int (q 33) :: Value.ref (a 34) :: Value.ref (a 35) :: Value.ref (a 36) :: Value.ref (a 37) :: Value.ref (a 38) :: Value.ref (a 39) :: Value.ref (a 40) :: Value.int (q 41) :: Value.ref (a 42) :: Value.int (q 43) :: Value.int (q 44) :: []))), ((a 34), .inl (T 0, 4, .inl f34)), ((a 35), .inl (T 0, 4, .inl f35)), ((a 36), .inl (T 1, 120, .inr (.inl f36))), ((a 37), .inl (T 3, 120, .inr (.inr (.inr (.inl f37)))))] sz) := by
  refine MetD.ofW (cc := cX13_halve) (maxL := 5) (ret := (some .int)) (by decide +kernel) rfl ?_
  intro p e s m args below meth c s₁ B hml hv hd0
  obtain ⟨rfl, hsz, hP, hE0, hD0⟩ := hv
  have hx := B.exec
  have hb := B.bytes
  have hr := B.returns
  have hts0 := atoms_spec (ws := wsX13_halve) B.pre
  have hown0 : s.vm.findClass RX13 = some m.cls := findClass_of_methodNamed B.named
  have hlocks := B.notSynchronized
  subst hsz
  have hD := hD0.self (sz := s.heap.size)
  generalize hAe : va_A [(h0, .inr (10, (Value.int (q 0) :: Value.int (q 1) :: Value.int (q 2) :: Value.int (q 3) :: Value.int (q 4) :: Value.int (q 5) :: Value.int (q 6) :: Value.int (q 7) :: Value.ref (a 8) :: Value.ref (a 9) :: Value.ref (a 10) :: Value.ref (a 11) :: Value.ref (a 12) :: Value.ref (a 13) :: Value.int (q 14) :: Value.long v :: Value.long w :: Value.ref (a 17) :: Value.ref (a 18) :: Value.ref (a 19) :: Value.ref (a 20) :: Value.ref (a 21) :: Value.ref (a 22) :: Value.ref (a 23) :: Value.int (q 24) :: Value.ref (a 25) :: Value.int (q 26) :: Value.ref (a 27) :: Value.int (q 28) :: Value.int (q 29) :: Value.int (q 30) :: Value.int (q 31) :: Value.int (q 32) :: Value.int (q 33) :: Value.ref (a 34) :: Value.ref (a 35) :: Value.ref (a 36) :: Value.ref (a 37) :: Value.ref (a 38) :: Value.ref (a 39) :: Value.ref (a 40) :: Value.int (q 41) :: Value.ref (a 42) :: Value.int (q 43) :: Value.int (q 44) :: []))), ((a 34), .inl (T 0, 4, .inl f34)), ((a 35), .inl (T 0, 4, .inl f35)), ((a 36), .inl (T 1, 120, .inr (.inl f36))), ((a 37), .inl (T 3, 120, .inr (.inr (.inr (.inl f37)))))] s.heap.size = A at hD ⊢
  have hA : ∀ q : Nat, s.heap.size ≤ q → A q := fun q h => by rw [← hAe]; exact Or.inr h
  have hS : va_S A s.heap s.heap [] := va_S.rf
  have hP : va_P D vwCl [(h0, .inr (10, (Value.int (q 0) :: Value.int (q 1) :: Value.int (q 2) :: Value.int (q 3) :: Value.int (q 4) :: Value.int (q 5) :: Value.int (q 6) :: Value.int (q 7) :: Value.ref (a 8) :: Value.ref (a 9) :: Value.ref (a 10) :: Value.ref (a 11) :: Value.ref (a 12) :: Value.ref (a 13) :: Value.int (q 14) :: Value.long v :: Value.long w :: Value.ref (a 17) :: Value.ref (a 18) :: Value.ref (a 19) :: Value.ref (a 20) :: Value.ref (a 21) :: Value.ref (a 22) :: Value.ref (a 23) :: Value.int (q 24) :: Value.ref (a 25) :: Value.int (q 26) :: Value.ref (a 27) :: Value.int (q 28) :: Value.int (q 29) :: Value.int (q 30) :: Value.int (q 31) :: Value.int (q 32) :: Value.int (q 33) :: Value.ref (a 34) :: Value.ref (a 35) :: Value.ref (a 36) :: Value.ref (a 37) :: Value.ref (a 38) :: Value.ref (a 39) :: Value.ref (a 40) :: Value.int (q 41) :: Value.ref (a 42) :: Value.int (q 43) :: Value.int (q 44) :: []))), ((a 34), .inl (T 0, 4, .inl f34)), ((a 35), .inl (T 0, 4, .inl f35)), ((a 36), .inl (T 1, 120, .inr (.inl f36))), ((a 37), .inl (T 3, 120, .inr (.inr (.inr (.inl f37)))))] s.heap := hP
  have hl := lv_entry ([.ref h0, .int x1, .int x2]) (n := 5) (Nat.le_of_ble_eq_true rfl)
  rw [lg_entry_eq]
  generalize (lg_sl ([.ref h0, .int x1, .int x2]) ++ List.replicate (5 - (lg_sl ([.ref h0, .int x1, .int x2])).length) Slot.unset).toArray = ls at hl ⊢
  have hl : lv_has ls 5 [(0, .ref h0), (1, .int x1), (2, .int x2)] := hl
  clear hD0
  have hts := dr_words hts0 s.drawn
  have hE : ekK D T (s.setDrawn s.drawn) := ekK.same (u := s) rfl hE0
  have hown : (s.setDrawn s.drawn).vm.findClass RX13 = some m.cls := hown0
  refine lv_aload_n hx hb dX13_halve_0 rfl (lv_at hl 0 rfl) ?_
  refine lv_iload_n hx hb dX13_halve_1 rfl (lv_at hl 1 rfl) ?_
  refine lv_iload_n hx hb dX13_halve_2 rfl (lv_at hl 2 rfl) ?_
  refine vp_callSi (W.runV (As := [.int x1, .int x2]) (rest := []) ⟨hx, hb, hml, hown, hts⟩ (c_X13_wrong l D T h0 [.int (q 0), .int (q 1), .int (q 2), .int (q 3), .int (q 4), .int (q 5), .int (q 6), .int (q 7), .ref (a 8), .ref (a 9), .ref (a 10), .ref (a 11), .ref (a 12), .ref (a 13), .int (q 14), .long v, .long w, .ref (a 17), .ref (a 18), .ref (a 19), .ref (a 20), .ref (a 21), .ref (a 22), .ref (a 23), .int (q 24), .ref (a 25), .int (q 26), .ref (a 27), .int (q 28), .int (q 29), .int (q 30), .int (q 31), .int (q 32), .int (q 33), .ref (a 34), .ref (a 35), .ref (a 36), .ref (a 37), .ref (a 38), .ref (a 39), .ref (a 40), .int (q 41), .ref (a 42), .int (q 43), .int (q 44)] (a 34) f34 (a 35) f35 x1 x2 rfl rfl hsz) (cwV 2 hts gX13_halve_X13_wrong rfl rfl rfl hv_X13_wrong ⟨Nat.le_of_ble_eq_true rfl, Nat.le_of_ble_eq_true rfl⟩) (pR_V (q := (RX13, TX13, 45)) (ci := 10) (q0 := 0) hP hE rfl rfl [0, 1, 2] rfl) rfl rfl hl.1 rfl (lv_room (Nat.le_of_ble_eq_true rfl)) dX13_halve_3 ⟨Nat.le_of_ble_eq_true rfl, Nat.le_of_ble_eq_true rfl⟩) (fun r_1 hr_1 => ?_)
  refine lv_istore_n (lv' := [(3, .int r_1), (0, .ref h0), (1, .int x1), (2, .int x2)]) hx hb dX13_halve_6 rfl hl (by decide +kernel) rfl (fun ls hl => ?_)
  refine lv_iload_n hx hb dX13_halve_7 rfl (lv_at hl 0 rfl) ?_
  refine lv_if_eq (tgt := 13) hx hb dX13_halve_8 (by decide +kernel) (fun c_2 => ?_) (fun c_2 => ?_)
  · rw [fa_eq] at c_2
    try rw [ti_0] at c_2
    have hwr := hr_1.1 (by omega)
    have h30 : (30 * x1).toInt = 30 * x1.toInt := by rw [fb_mulI (by rw [ti_30]; omega) (by rw [ti_30]; omega), ti_30]
    refine lv_bipush (v := 30) hx hb dX13_halve_13 (by decide +kernel) ?_
    refine lv_iload_n hx hb dX13_halve_15 rfl (lv_at hl 2 rfl) ?_
    refine lv_imul hx hb dX13_halve_16 ?_
    refine lv_iload_n hx hb dX13_halve_17 rfl (lv_at hl 3 rfl) ?_
    refine lv_iadd hx hb dX13_halve_18 ?_
    refine lv_topi (fun z_3 ez_3 => ?_)
    refine lv_istore (lv' := [(4, .int z_3), (3, .int r_1), (0, .ref h0), (1, .int x1), (2, .int x2)]) hx hb dX13_halve_19 hl (by decide +kernel) rfl (fun ls hl => ?_)
    have hz9 : z_3.toInt = 30 * x1.toInt + x2.toInt := by rw [ez_3, fb_addI (by omega) (by omega)]; omega
    refine lv_aload_n hx hb dX13_halve_21 rfl (lv_at hl 2 rfl) ?_
    refine va_get (D := D) (ci := 10) (v := .ref (a 36)) (C := RX13) (T := TX13) (N := 45) hx hb hts in_X13_halve_X13 hown hE.1 hP 0 rfl rfl 36 (by decide +kernel) (hts (.fieldLink RX13 110 "ClauseBookModel" "whole" "[J") (List.mem_of_getElem? (i := 1) rfl)) (fun _ h9 => h9) rfl dX13_halve_22 ?_
    refine lv_iload hx hb dX13_halve_25 (lv_at hl 0 rfl) ?_
    refine lv_aload_n hx hb dX13_halve_27 rfl (lv_at hl 2 rfl) ?_
    refine va_get (D := D) (ci := 10) (v := .ref (a 36)) (C := RX13) (T := TX13) (N := 45) hx hb hts in_X13_halve_X13 hown hE.1 hP 0 rfl rfl 36 (by decide +kernel) (hts (.fieldLink RX13 110 "ClauseBookModel" "whole" "[J") (List.mem_of_getElem? (i := 1) rfl)) (fun _ h9 => h9) rfl dX13_halve_28 ?_
    refine lv_iload hx hb dX13_halve_31 (lv_at hl 0 rfl) ?_
    refine va_lald hx hb hE.1 hP 3 1 rfl rfl (by rw [vp_in_iff]; first | omega | (rw [fb_addI (by omega) (by omega)]; omega)) dX13_halve_33 ?_
    refine lv_topl (fun z_4 ez_4 => ?_)
    refine lv_ldc2 (v := 2) hx hb hown (hts (.constantLong RX13 184 (2)) (List.mem_of_getElem? (i := 2) rfl)) dX13_halve_34 ?_
    refine lv_ldiv hx hb dX13_halve_37 (by decide +kernel) ?_
    refine va_last hx hb hE.1 hP hD hS 3 1 rfl rfl (by rw [vp_in_iff]; first | omega | (rw [fb_addI (by omega) (by omega)]; omega)) dX13_halve_38 (fun H locs hP hD hS => ?_)
    obtain ⟨hP, hD⟩ := wPD [(h0, .inr (10, (Value.int (q 0) :: Value.int (q 1) :: Value.int (q 2) :: Value.int (q 3) :: Value.int (q 4) :: Value.int (q 5) :: Value.int (q 6) :: Value.int (q 7) :: Value.ref (a 8) :: Value.ref (a 9) :: Value.ref (a 10) :: Value.ref (a 11) :: Value.ref (a 12) :: Value.ref (a 13) :: Value.int (q 14) :: Value.long v :: Value.long w :: Value.ref (a 17) :: Value.ref (a 18) :: Value.ref (a 19) :: Value.ref (a 20) :: Value.ref (a 21) :: Value.ref (a 22) :: Value.ref (a 23) :: Value.int (q 24) :: Value.ref (a 25) :: Value.int (q 26) :: Value.ref (a 27) :: Value.int (q 28) :: Value.int (q 29) :: Value.int (q 30) :: Value.int (q 31) :: Value.int (q 32) :: Value.int (q 33) :: Value.ref (a 34) :: Value.ref (a 35) :: Value.ref (a 36) :: Value.ref (a 37) :: Value.ref (a 38) :: Value.ref (a 39) :: Value.ref (a 40) :: Value.int (q 41) :: Value.ref (a 42) :: Value.int (q 43) :: Value.int (q 44) :: []))), ((a 34), .inl (T 0, 4, .inl f34)), ((a 35), .inl (T 0, 4, .inl f35)), ((a 36), .inl (T 1, 120, .inr (.inl (vp_updL f36 (z_3.toNatClampNeg) (z_4 / 2))))), ((a 37), .inl (T 3, 120, .inr (.inr (.inr (.inl f37)))))] hP hD rfl
    refine lv_aload_n hx hb dX13_halve_39 rfl (lv_at hl 2 rfl) ?_
    refine va_get (D := D) (ci := 10) (v := .ref (a 37)) (C := RX13) (T := TX13) (N := 45) hx hb hts in_X13_halve_X13 hown hE.1 hP 0 rfl rfl 37 (by decide +kernel) (hts (.fieldLink RX13 113 "ClauseBookModel" "host" "[D") (List.mem_of_getElem? (i := 3) rfl)) (fun _ h9 => h9) rfl dX13_halve_40 ?_
    refine lv_iload hx hb dX13_halve_43 (lv_at hl 0 rfl) ?_
    refine lv_aload_n hx hb dX13_halve_45 rfl (lv_at hl 2 rfl) ?_
    refine va_get (D := D) (ci := 10) (v := .ref (a 34)) (C := RX13) (T := TX13) (N := 45) hx hb hts in_X13_halve_X13 hown hE.1 hP 0 rfl rfl 34 (by decide +kernel) (hts (.fieldLink RX13 104 "ClauseBookModel" "sorts" "[I") (List.mem_of_getElem? (i := 4) rfl)) (fun _ h9 => h9) rfl dX13_halve_46 ?_
    refine lv_iload_n hx hb dX13_halve_49 rfl (lv_at hl 3 rfl) ?_
    refine va_iald hx hb hE.1 hP 1 0 rfl rfl (by rw [vp_in_iff]; first | omega | (rw [fb_addI (by omega) (by omega)]; omega)) dX13_halve_50 ?_
    refine lv_topi (fun z_5 ez_5 => ?_)
    refine lv_iconst (v := 2) hx hb dX13_halve_51 (by decide +kernel) ?_
    refine lv_icmp_ne (tgt := 69) hx hb dX13_halve_52 (by decide +kernel) (fun c_6 => ?_) (fun c_6 => ?_)
    · rw [fa_eq] at c_6
      try rw [ti_2] at c_6
      refine lv_aload_n hx hb dX13_halve_69 rfl (lv_at hl 2 rfl) ?_
      refine va_get (D := D) (ci := 10) (v := .ref (a 37)) (C := RX13) (T := TX13) (N := 45) hx hb hts in_X13_halve_X13 hown hE.1 hP 0 rfl rfl 37 (by decide +kernel) (hts (.fieldLink RX13 113 "ClauseBookModel" "host" "[D") (List.mem_of_getElem? (i := 3) rfl)) (fun _ h9 => h9) rfl dX13_halve_70 ?_
      refine lv_iload hx hb dX13_halve_73 (lv_at hl 0 rfl) ?_
      refine va_dald hx hb hE.1 hP 4 3 rfl rfl (by rw [vp_in_iff]; first | omega | (rw [fb_addI (by omega) (by omega)]; omega)) dX13_halve_75 ?_
      obtain ⟨z_7, ez_7⟩ : ∃ y : UInt64, y = (f37 z_3.toNatClampNeg) := ⟨_, rfl⟩
      refine W.eq (g2 := F0 m 76 ls [.double z_7, .int z_3, .ref (a 37)]) (by rw [ez_7]) ?_
      clear ez_7
      refine lv_ldc2d (v := 4611686018427387904) hx hb hown (hts (.constantDouble RX13 415 (4611686018427387904)) (List.mem_of_getElem? (i := 5) rfl)) dX13_halve_76 ?_
      refine lv_ddiv_any hd0 lw_bits hx hb dX13_halve_79 (fun r_8 d_9 _ hd_9 => ?_)
      have hts := dr_words hts0 d_9
      have hE : ekK D T (s.setDrawn d_9) := ekK.same (u := s) rfl hE0
      have hown : (s.setDrawn d_9).vm.findClass RX13 = some m.cls := hown0
      refine va_dast hx hb hE.1 hP hD hS 4 3 rfl rfl (by rw [vp_in_iff]; first | omega | (rw [fb_addI (by omega) (by omega)]; omega)) dX13_halve_80 (fun H locs hP hD hS => ?_)
      obtain ⟨hP, hD⟩ := wPD [(h0, .inr (10, (Value.int (q 0) :: Value.int (q 1) :: Value.int (q 2) :: Value.int (q 3) :: Value.int (q 4) :: Value.int (q 5) :: Value.int (q 6) :: Value.int (q 7) :: Value.ref (a 8) :: Value.ref (a 9) :: Value.ref (a 10) :: Value.ref (a 11) :: Value.ref (a 12) :: Value.ref (a 13) :: Value.int (q 14) :: Value.long v :: Value.long w :: Value.ref (a 17) :: Value.ref (a 18) :: Value.ref (a 19) :: Value.ref (a 20) :: Value.ref (a 21) :: Value.ref (a 22) :: Value.ref (a 23) :: Value.int (q 24) :: Value.ref (a 25) :: Value.int (q 26) :: Value.ref (a 27) :: Value.int (q 28) :: Value.int (q 29) :: Value.int (q 30) :: Value.int (q 31) :: Value.int (q 32) :: Value.int (q 33) :: Value.ref (a 34) :: Value.ref (a 35) :: Value.ref (a 36) :: Value.ref (a 37) :: Value.ref (a 38) :: Value.ref (a 39) :: Value.ref (a 40) :: Value.int (q 41) :: Value.ref (a 42) :: Value.int (q 43) :: Value.int (q 44) :: []))), ((a 34), .inl (T 0, 4, .inl f34)), ((a 35), .inl (T 0, 4, .inl f35)), ((a 36), .inl (T 1, 120, .inr (.inl (vp_updL f36 (z_3.toNatClampNeg) (z_4 / 2))))), ((a 37), .inl (T 3, 120, .inr (.inr (.inr (.inl (vf_upd f37 (z_3.toNatClampNeg) r_8))))))] hP hD rfl
      refine lv_iconst (v := 1) hx hb dX13_halve_81 (by decide +kernel) ?_
      refine W.endD hd_9 ?_
      exact W.iret hx hb hr (fun t ht hW => ⟨⟨_, ((vp_updL f36 (z_3.toNatClampNeg) (z_4 / 2)), (vf_upd f37 (z_3.toNatClampNeg) r_8)), rfl, (show (¬ (0 ≤ x1.toInt ∧ x1.toInt ≤ 3) → (1 : Int32).toInt = -2) ∧ ((0 ≤ x1.toInt ∧ x1.toInt ≤ 3) → ((f34 (x1.toNatClampNeg)).toInt < 0 → (1 : Int32).toInt = -11) ∧ (¬ (f34 (x1.toNatClampNeg)).toInt < 0 → ((0 ≤ x2.toInt ∧ x2.toInt < (f35 (x1.toNatClampNeg)).toInt) → (1 : Int32).toInt = 1) ∧ (¬ (0 ≤ x2.toInt ∧ x2.toInt < (f35 (x1.toNatClampNeg)).toInt) → (1 : Int32).toInt = -12))) from (by have h9r : (1 : Int32).toInt = 1 := (by decide +kernel); omega)), by rw [ht]; exact hP.sub [0, 1, 2, 3, 4] rfl, hD.sub [0, 1, 2, 3, 4] (by decide +kernel) rfl⟩, hS.F ht⟩) hS.2.2 dX13_halve_82
    · rw [fa_eq] at c_6
      try rw [ti_2] at c_6
      refine lv_aload_n hx hb dX13_halve_55 rfl (lv_at hl 2 rfl) ?_
      refine va_get (D := D) (ci := 10) (v := .ref (a 37)) (C := RX13) (T := TX13) (N := 45) hx hb hts in_X13_halve_X13 hown hE.1 hP 0 rfl rfl 37 (by decide +kernel) (hts (.fieldLink RX13 113 "ClauseBookModel" "host" "[D") (List.mem_of_getElem? (i := 3) rfl)) (fun _ h9 => h9) rfl dX13_halve_56 ?_
      refine lv_iload hx hb dX13_halve_59 (lv_at hl 0 rfl) ?_
      refine va_dald hx hb hE.1 hP 4 3 rfl rfl (by rw [vp_in_iff]; first | omega | (rw [fb_addI (by omega) (by omega)]; omega)) dX13_halve_61 ?_
      obtain ⟨z_10, ez_10⟩ : ∃ y : UInt64, y = (f37 z_3.toNatClampNeg) := ⟨_, rfl⟩
      refine W.eq (g2 := F0 m 62 ls [.double z_10, .int z_3, .ref (a 37)]) (by rw [ez_10]) ?_
      clear ez_10
      refine lv_d2f_any hd0 lw_bits hx hb dX13_halve_62 (fun r_11 d_12 _ hd_12 => ?_)
      have hts := dr_words hts0 d_12
      have hE : ekK D T (s.setDrawn d_12) := ekK.same (u := s) rfl hE0
      have hown : (s.setDrawn d_12).vm.findClass RX13 = some m.cls := hown0
      refine lv_fconst2 hx hb dX13_halve_63 ?_
      refine lv_fdiv_any hd_12 lw_bits hx hb dX13_halve_64 (fun r_13 d_14 _ hd_14 => ?_)
      have hts := dr_words hts0 d_14
      have hE : ekK D T (s.setDrawn d_14) := ekK.same (u := s) rfl hE0
      have hown : (s.setDrawn d_14).vm.findClass RX13 = some m.cls := hown0
      refine lv_f2d_any hd_14 lw_bits hx hb dX13_halve_65 (fun r_15 d_16 _ hd_16 => ?_)
      have hts := dr_words hts0 d_16
      have hE : ekK D T (s.setDrawn d_16) := ekK.same (u := s) rfl hE0
      have hown : (s.setDrawn d_16).vm.findClass RX13 = some m.cls := hown0
      refine lv_goto (tgt := 80) hx hb dX13_halve_66 (by decide +kernel) ?_
      refine va_dast hx hb hE.1 hP hD hS 4 3 rfl rfl (by rw [vp_in_iff]; first | omega | (rw [fb_addI (by omega) (by omega)]; omega)) dX13_halve_80 (fun H locs hP hD hS => ?_)
      obtain ⟨hP, hD⟩ := wPD [(h0, .inr (10, (Value.int (q 0) :: Value.int (q 1) :: Value.int (q 2) :: Value.int (q 3) :: Value.int (q 4) :: Value.int (q 5) :: Value.int (q 6) :: Value.int (q 7) :: Value.ref (a 8) :: Value.ref (a 9) :: Value.ref (a 10) :: Value.ref (a 11) :: Value.ref (a 12) :: Value.ref (a 13) :: Value.int (q 14) :: Value.long v :: Value.long w :: Value.ref (a 17) :: Value.ref (a 18) :: Value.ref (a 19) :: Value.ref (a 20) :: Value.ref (a 21) :: Value.ref (a 22) :: Value.ref (a 23) :: Value.int (q 24) :: Value.ref (a 25) :: Value.int (q 26) :: Value.ref (a 27) :: Value.int (q 28) :: Value.int (q 29) :: Value.int (q 30) :: Value.int (q 31) :: Value.int (q 32) :: Value.int (q 33) :: Value.ref (a 34) :: Value.ref (a 35) :: Value.ref (a 36) :: Value.ref (a 37) :: Value.ref (a 38) :: Value.ref (a 39) :: Value.ref (a 40) :: Value.int (q 41) :: Value.ref (a 42) :: Value.int (q 43) :: Value.int (q 44) :: []))), ((a 34), .inl (T 0, 4, .inl f34)), ((a 35), .inl (T 0, 4, .inl f35)), ((a 36), .inl (T 1, 120, .inr (.inl (vp_updL f36 (z_3.toNatClampNeg) (z_4 / 2))))), ((a 37), .inl (T 3, 120, .inr (.inr (.inr (.inl (vf_upd f37 (z_3.toNatClampNeg) r_15))))))] hP hD rfl
      refine lv_iconst (v := 1) hx hb dX13_halve_81 (by decide +kernel) ?_
      refine W.endD hd_16 ?_
      exact W.iret hx hb hr (fun t ht hW => ⟨⟨_, ((vp_updL f36 (z_3.toNatClampNeg) (z_4 / 2)), (vf_upd f37 (z_3.toNatClampNeg) r_15)), rfl, (show (¬ (0 ≤ x1.toInt ∧ x1.toInt ≤ 3) → (1 : Int32).toInt = -2) ∧ ((0 ≤ x1.toInt ∧ x1.toInt ≤ 3) → ((f34 (x1.toNatClampNeg)).toInt < 0 → (1 : Int32).toInt = -11) ∧ (¬ (f34 (x1.toNatClampNeg)).toInt < 0 → ((0 ≤ x2.toInt ∧ x2.toInt < (f35 (x1.toNatClampNeg)).toInt) → (1 : Int32).toInt = 1) ∧ (¬ (0 ≤ x2.toInt ∧ x2.toInt < (f35 (x1.toNatClampNeg)).toInt) → (1 : Int32).toInt = -12))) from (by have h9r : (1 : Int32).toInt = 1 := (by decide +kernel); omega)), by rw [ht]; exact hP.sub [0, 1, 2, 3, 4] rfl, hD.sub [0, 1, 2, 3, 4] (by decide +kernel) rfl⟩, hS.F ht⟩) hS.2.2 dX13_halve_82
  · rw [fa_eq] at c_2
    try rw [ti_0] at c_2
    refine lv_iload_n hx hb dX13_halve_11 rfl (lv_at hl 0 rfl) ?_
    refine W.endD hd0 ?_
    exact W.iret hx hb hr (fun t ht hW => ⟨⟨_, (f36, f37), rfl, (show (¬ (0 ≤ x1.toInt ∧ x1.toInt ≤ 3) → r_1.toInt = -2) ∧ ((0 ≤ x1.toInt ∧ x1.toInt ≤ 3) → ((f34 (x1.toNatClampNeg)).toInt < 0 → r_1.toInt = -11) ∧ (¬ (f34 (x1.toNatClampNeg)).toInt < 0 → ((0 ≤ x2.toInt ∧ x2.toInt < (f35 (x1.toNatClampNeg)).toInt) → r_1.toInt = 1) ∧ (¬ (0 ≤ x2.toInt ∧ x2.toInt < (f35 (x1.toNatClampNeg)).toInt) → r_1.toInt = -12))) from (by omega)), by rw [ht]; exact hP.sub [0, 1, 2, 3, 4] rfl, hD.sub [0, 1, 2, 3, 4] (by decide +kernel) rfl⟩, hS.F ht⟩) hS.2.2 dX13_halve_12
theorem dX13_read_0 : decode cX13_read 0 = .ok (.iload_n 1, 1) := by decide +kernel
theorem dX13_read_1 : decode cX13_read 1 = .ok (.invokestatic 332, 3) := by decide +kernel
theorem dX13_read_10 : decode cX13_read 10 = .ok (.ldc2_w 408, 3) := by decide +kernel
theorem dX13_read_116 : decode cX13_read 116 = .ok (.iload 9, 2) := by decide +kernel
theorem dX13_read_118 : decode cX13_read 118 = .ok (.ifCond .eq 8, 3) := by decide +kernel
theorem dX13_read_121 : decode cX13_read 121 = .ok (.lload 5, 2) := by decide +kernel
theorem dX13_read_123 : decode cX13_read 123 = .ok (.goto 28, 3) := by decide +kernel
theorem dX13_read_126 : decode cX13_read 126 = .ok (.aload_n 0, 1) := by decide +kernel
theorem dX13_read_127 : decode cX13_read 127 = .ok (.getfield 104, 3) := by decide +kernel
theorem dX13_read_13 : decode cX13_read 13 = .ok (.invokestatic 175, 3) := by decide +kernel
theorem dX13_read_130 : decode cX13_read 130 = .ok (.iload_n 1, 1) := by decide +kernel
theorem dX13_read_131 : decode cX13_read 131 = .ok (.iaload, 1) := by decide +kernel
theorem dX13_read_132 : decode cX13_read 132 = .ok (.iconst 2, 1) := by decide +kernel
theorem dX13_read_133 : decode cX13_read 133 = .ok (.if_icmp .ne 13, 3) := by decide +kernel
theorem dX13_read_136 : decode cX13_read 136 = .ok (.dload 7, 2) := by decide +kernel
theorem dX13_read_138 : decode cX13_read 138 = .ok (.d2f, 1) := by decide +kernel
theorem dX13_read_139 : decode cX13_read 139 = .ok (.invokestatic 282, 3) := by decide +kernel
theorem dX13_read_142 : decode cX13_read 142 = .ok (.i2l, 1) := by decide +kernel
theorem dX13_read_143 : decode cX13_read 143 = .ok (.goto 8, 3) := by decide +kernel
theorem dX13_read_146 : decode cX13_read 146 = .ok (.dload 7, 2) := by decide +kernel
theorem dX13_read_148 : decode cX13_read 148 = .ok (.invokestatic 288, 3) := by decide +kernel
theorem dX13_read_151 : decode cX13_read 151 = .ok (.lreturn, 1) := by decide +kernel
theorem dX13_read_152 : decode cX13_read 152 = .ok (.iload 9, 2) := by decide +kernel
theorem dX13_read_154 : decode cX13_read 154 = .ok (.ifCond .eq 10, 3) := by decide +kernel
theorem dX13_read_157 : decode cX13_read 157 = .ok (.lload 5, 2) := by decide +kernel
theorem dX13_read_159 : decode cX13_read 159 = .ok (.l2i, 1) := by decide +kernel
theorem dX13_read_16 : decode cX13_read 16 = .ok (.ifCond .ne 9, 3) := by decide +kernel
theorem dX13_read_160 : decode cX13_read 160 = .ok (.i2l, 1) := by decide +kernel
theorem dX13_read_161 : decode cX13_read 161 = .ok (.goto 7, 3) := by decide +kernel
theorem dX13_read_164 : decode cX13_read 164 = .ok (.dload 7, 2) := by decide +kernel
theorem dX13_read_166 : decode cX13_read 166 = .ok (.d2i, 1) := by decide +kernel
theorem dX13_read_167 : decode cX13_read 167 = .ok (.i2l, 1) := by decide +kernel
theorem dX13_read_168 : decode cX13_read 168 = .ok (.lreturn, 1) := by decide +kernel
theorem dX13_read_169 : decode cX13_read 169 = .ok (.iload 9, 2) := by decide +kernel
theorem dX13_read_171 : decode cX13_read 171 = .ok (.ifCond .eq 8, 3) := by decide +kernel
theorem dX13_read_174 : decode cX13_read 174 = .ok (.lload 5, 2) := by decide +kernel
theorem dX13_read_176 : decode cX13_read 176 = .ok (.goto 6, 3) := by decide +kernel
theorem dX13_read_179 : decode cX13_read 179 = .ok (.dload 7, 2) := by decide +kernel
theorem dX13_read_181 : decode cX13_read 181 = .ok (.d2l, 1) := by decide +kernel
theorem dX13_read_182 : decode cX13_read 182 = .ok (.lreturn, 1) := by decide +kernel
theorem dX13_read_183 : decode cX13_read 183 = .ok (.iload 9, 2) := by decide +kernel
theorem dX13_read_185 : decode cX13_read 185 = .ok (.ifCond .eq 9, 3) := by decide +kernel
theorem dX13_read_188 : decode cX13_read 188 = .ok (.lload 5, 2) := by decide +kernel
theorem dX13_read_19 : decode cX13_read 19 = .ok (.bipush (-2), 2) := by decide +kernel
theorem dX13_read_190 : decode cX13_read 190 = .ok (.l2d, 1) := by decide +kernel
theorem dX13_read_191 : decode cX13_read 191 = .ok (.goto 5, 3) := by decide +kernel
theorem dX13_read_194 : decode cX13_read 194 = .ok (.dload 7, 2) := by decide +kernel
theorem dX13_read_196 : decode cX13_read 196 = .ok (.ldc2_w 413, 3) := by decide +kernel
theorem dX13_read_199 : decode cX13_read 199 = .ok (.drem, 1) := by decide +kernel
theorem dX13_read_200 : decode cX13_read 200 = .ok (.invokestatic 288, 3) := by decide +kernel
theorem dX13_read_203 : decode cX13_read 203 = .ok (.lreturn, 1) := by decide +kernel
theorem dX13_read_21 : decode cX13_read 21 = .ok (.invokestatic 270, 3) := by decide +kernel
theorem dX13_read_24 : decode cX13_read 24 = .ok (.lreturn, 1) := by decide +kernel
theorem dX13_read_25 : decode cX13_read 25 = .ok (.aload_n 0, 1) := by decide +kernel
theorem dX13_read_26 : decode cX13_read 26 = .ok (.iload_n 1, 1) := by decide +kernel
theorem dX13_read_27 : decode cX13_read 27 = .ok (.iload_n 2, 1) := by decide +kernel
theorem dX13_read_28 : decode cX13_read 28 = .ok (.invokevirtual 410, 3) := by decide +kernel
theorem dX13_read_31 : decode cX13_read 31 = .ok (.istore 4, 2) := by decide +kernel
theorem dX13_read_33 : decode cX13_read 33 = .ok (.iload 4, 2) := by decide +kernel
theorem dX13_read_35 : decode cX13_read 35 = .ok (.ifCond .eq 9, 3) := by decide +kernel
theorem dX13_read_38 : decode cX13_read 38 = .ok (.iload 4, 2) := by decide +kernel
theorem dX13_read_4 : decode cX13_read 4 = .ok (.ifCond .eq 15, 3) := by decide +kernel
theorem dX13_read_40 : decode cX13_read 40 = .ok (.invokestatic 270, 3) := by decide +kernel
theorem dX13_read_43 : decode cX13_read 43 = .ok (.lreturn, 1) := by decide +kernel
theorem dX13_read_44 : decode cX13_read 44 = .ok (.aload_n 0, 1) := by decide +kernel
theorem dX13_read_45 : decode cX13_read 45 = .ok (.getfield 110, 3) := by decide +kernel
theorem dX13_read_48 : decode cX13_read 48 = .ok (.bipush 30, 2) := by decide +kernel
theorem dX13_read_50 : decode cX13_read 50 = .ok (.iload_n 1, 1) := by decide +kernel
theorem dX13_read_51 : decode cX13_read 51 = .ok (.imul, 1) := by decide +kernel
theorem dX13_read_52 : decode cX13_read 52 = .ok (.iload_n 2, 1) := by decide +kernel
theorem dX13_read_53 : decode cX13_read 53 = .ok (.iadd, 1) := by decide +kernel
theorem dX13_read_54 : decode cX13_read 54 = .ok (.laload, 1) := by decide +kernel
theorem dX13_read_55 : decode cX13_read 55 = .ok (.lstore 5, 2) := by decide +kernel
theorem dX13_read_57 : decode cX13_read 57 = .ok (.aload_n 0, 1) := by decide +kernel
theorem dX13_read_58 : decode cX13_read 58 = .ok (.getfield 113, 3) := by decide +kernel
theorem dX13_read_61 : decode cX13_read 61 = .ok (.bipush 30, 2) := by decide +kernel
theorem dX13_read_63 : decode cX13_read 63 = .ok (.iload_n 1, 1) := by decide +kernel
theorem dX13_read_64 : decode cX13_read 64 = .ok (.imul, 1) := by decide +kernel
theorem dX13_read_65 : decode cX13_read 65 = .ok (.iload_n 2, 1) := by decide +kernel
theorem dX13_read_66 : decode cX13_read 66 = .ok (.iadd, 1) := by decide +kernel
theorem dX13_read_67 : decode cX13_read 67 = .ok (.daload, 1) := by decide +kernel
theorem dX13_read_68 : decode cX13_read 68 = .ok (.dstore 7, 2) := by decide +kernel
theorem dX13_read_7 : decode cX13_read 7 = .ok (.iload_n 3, 1) := by decide +kernel
theorem dX13_read_70 : decode cX13_read 70 = .ok (.aload_n 0, 1) := by decide +kernel
theorem dX13_read_71 : decode cX13_read 71 = .ok (.getfield 104, 3) := by decide +kernel
theorem dX13_read_74 : decode cX13_read 74 = .ok (.iload_n 1, 1) := by decide +kernel
theorem dX13_read_75 : decode cX13_read 75 = .ok (.iaload, 1) := by decide +kernel
theorem dX13_read_76 : decode cX13_read 76 = .ok (.iconst 2, 1) := by decide +kernel
theorem dX13_read_77 : decode cX13_read 77 = .ok (.if_icmp .ge 7, 3) := by decide +kernel
theorem dX13_read_8 : decode cX13_read 8 = .ok (.i2l, 1) := by decide +kernel
theorem dX13_read_80 : decode cX13_read 80 = .ok (.iconst 1, 1) := by decide +kernel
theorem dX13_read_81 : decode cX13_read 81 = .ok (.goto 4, 3) := by decide +kernel
theorem dX13_read_84 : decode cX13_read 84 = .ok (.iconst 0, 1) := by decide +kernel
theorem dX13_read_85 : decode cX13_read 85 = .ok (.istore 9, 2) := by decide +kernel
theorem dX13_read_87 : decode cX13_read 87 = .ok (.iload_n 3, 1) := by decide +kernel
theorem dX13_read_88 : decode cX13_read 88 = .ok (.tableswitch 95 0 2 #[28, 64, 81], 28) := by decide +kernel
theorem dX13_read_9 : decode cX13_read 9 = .ok (.lconst 0, 1) := by decide +kernel
set_option maxRecDepth 20000 in
theorem ggX13_read_Jxe99ae_doubleToLongBits_ccdee : GoodIn wsX13_read wsJxe99ae_doubleToLongBits_ccdee := goodIn_r _ [37, 38, 39, 40, 41, 42, 43, 44, 36, 45] rfl (by decide +kernel)
set_option maxRecDepth 20000 in
theorem ggX13_read_Jxf58ca_floatToIntBits_5c35a : GoodIn wsX13_read wsJxf58ca_floatToIntBits_5c35a := goodIn_r _ [25, 26, 27, 28, 29, 30, 31, 32, 24, 33] rfl (by decide +kernel)
set_option maxRecDepth 20000 in
theorem ggX13_read_X13_in : GoodIn wsX13_read wsX13_in := goodIn_r _ [12] rfl (by decide +kernel)
set_option maxRecDepth 20000 in
theorem ggX13_read_X13_isSheet : GoodIn wsX13_read wsX13_isSheet := goodIn_r _ [9, 1, 10, 11, 8, 12] rfl (by decide +kernel)
set_option maxRecDepth 20000 in
theorem ggX13_read_X13_refused : GoodIn wsX13_read wsX13_refused := goodIn_r _ [15, 16] rfl (by decide +kernel)
set_option maxRecDepth 20000 in
theorem ggX13_read_X13_wrong : GoodIn wsX13_read wsX13_wrong := goodIn_r _ [20, 4, 21, 6, 7, 8, 9, 1, 10, 11, 12, 46, 47, 48, 49, 50, 51, 52, 53, 54, 55, 56, 57, 58, 59, 60, 61, 62, 63, 64, 65, 66, 67, 68, 69, 70, 71, 72, 73, 74, 75, 76, 77, 78, 79, 80, 81, 82, 83, 84, 85, 86, 87, 88, 89, 90] rfl (by decide +kernel)
set_option maxRecDepth 20000 in
theorem gX13_read_Jxe99ae_doubleToLongBits_ccdee : GoodIn wsX13_read (va_wsS RX13 288 yJxe99ae_doubleToLongBits_ccdee wsJxe99ae_doubleToLongBits_ccdee) := goodIn_app (goodIn_of _ (by decide +kernel)) ggX13_read_Jxe99ae_doubleToLongBits_ccdee
set_option maxRecDepth 20000 in
theorem gX13_read_Jxf58ca_floatToIntBits_5c35a : GoodIn wsX13_read (va_wsS RX13 282 yJxf58ca_floatToIntBits_5c35a wsJxf58ca_floatToIntBits_5c35a) := goodIn_app (goodIn_of _ (by decide +kernel)) ggX13_read_Jxf58ca_floatToIntBits_5c35a
set_option maxRecDepth 20000 in
theorem gX13_read_X13_in : GoodIn wsX13_read (va_wsS RX13 175 yX13_in wsX13_in) := goodIn_app (goodIn_of _ (by decide +kernel)) ggX13_read_X13_in
set_option maxRecDepth 20000 in
theorem gX13_read_X13_isSheet : GoodIn wsX13_read (va_wsS RX13 332 yX13_isSheet wsX13_isSheet) := goodIn_app (goodIn_of _ (by decide +kernel)) ggX13_read_X13_isSheet
set_option maxRecDepth 20000 in
theorem gX13_read_X13_refused : GoodIn wsX13_read (va_wsS RX13 270 yX13_refused wsX13_refused) := goodIn_app (goodIn_of _ (by decide +kernel)) ggX13_read_X13_refused
set_option maxRecDepth 20000 in
theorem gX13_read_X13_wrong : GoodIn wsX13_read (wsV RX13 410 RX13 yX13_wrong wsX13_wrong) := goodIn_app (goodIn_r _ [17, 18, 19, 8] rfl (by decide +kernel)) ggX13_read_X13_wrong
theorem hs_Jxe99ae_doubleToLongBits_ccdee : yJxe99ae_doubleToLongBits_ccdee.cls ≠ "java/lang/invoke/MethodHandle" ∧ yJxe99ae_doubleToLongBits_ccdee.cls ≠ "java/lang/invoke/VarHandle" ∧ (parseMethodDescriptor yJxe99ae_doubleToLongBits_ccdee.desc).map (fun d => d.parameters.length) = some 1 := by decide +kernel
theorem hs_Jxf58ca_floatToIntBits_5c35a : yJxf58ca_floatToIntBits_5c35a.cls ≠ "java/lang/invoke/MethodHandle" ∧ yJxf58ca_floatToIntBits_5c35a.cls ≠ "java/lang/invoke/VarHandle" ∧ (parseMethodDescriptor yJxf58ca_floatToIntBits_5c35a.desc).map (fun d => d.parameters.length) = some 1 := by decide +kernel
set_option maxRecDepth 20000 in
theorem in_X13_read_X13 : ∀ w ∈ wsX130, w ∈ wsX13_read := sub_r [46, 47, 48, 49, 50, 51, 52, 53, 54, 55, 56, 57, 58, 59, 60, 61, 62, 63, 64, 65, 66, 67, 68, 69, 70, 71, 72, 73, 74, 75, 76, 77, 78, 79, 80, 81, 82, 83, 84, 85, 86, 87, 88, 89, 90] rfl
set_option maxHeartbeats 4000000 in
set_option maxRecDepth 100000 in
theorem c_X13_read (l : Launch) (D : va_G) (T : Nat → ClassId) (sz : Nat) (h0 : Nat) (q : Nat → Int32) (v : Int64) (w : Int64) (a : Nat → Nat) (f34 : Nat → Int32) (f35 : Nat → Int32) (f36 : Nat → Int64) (f37 : Nat → UInt64) (x1 : Int32) (x2 : Int32) (x3 : Int32) (hsz : ∀ k : Nat, k < 4 → 0 ≤ (f35 k).toInt ∧ (f35 k).toInt ≤ 30) : MetD lw_cs l yX13_read wsX13_read ({ frames := 3, cells := 0, slots := 0, locals := 67 }) (pW [.ref h0, .int x1, .int x2, .int x3] D T [(h0, .inr (10, (Value.int (q 0) :: Value.int (q 1) :: Value.int (q 2) :: Value.int (q 3) :: Value.int (q 4) :: Value.int (q 5) :: Value.int (q 6) :: Value.int (q 7) :: Value.ref (a 8) :: Value.ref (a 9) :: Value.ref (a 10) :: Value.ref (a 11) :: Value.ref (a 12) :: Value.ref (a 13) :: Value.int (q 14) :: Value.long v :: Value.long w :: Value.ref (a 17) :: Value.ref (a 18) :: Value.ref (a 19) :: Value.ref (a 20) :: Value.ref (a 21) :: Value.ref (a 22) :: Value.ref (a 23) :: Value.int (q 24) :: Value.ref (a 25) :: Value.int (q 26) :: Value.ref (a 27) :: Value.int (q 28) :: Value.int (q 29) :: Value.int (q 30) :: Value.int (q 31) :: Value.int (q 32) :: Value.int (q 33) :: Value.ref (a 34) :: Value.ref (a 35) :: Value.ref (a 36) :: Value.ref (a 37) :: Value.ref (a 38) :: Value.ref (a 39) :: Value.ref (a 40) :: Value.int (q 41) :: Value.ref (a 42) :: Value.int (q 43) :: Value.int (q 44) :: []))), ((a 34), .inl (T 0, 4, .inl f34)), ((a 35), .inl (T 0, 4, .inl f35)), ((a 36), .inl (T 1, 120, .inr (.inl f36))), ((a 37), .inl (T 3, 120, .inr (.inr (.inr (.inl f37)))))] sz) (va_Ql (fun (r : Int64) (u : Unit) => True) (bW D (va_A [(h0, .inr (10, (Value.int (q 0) :: Value.int (q 1) :: Value.int (q 2) :: Value.int (q 3) :: Value.int (q 4) :: Value.int (q 5) :: Value.int (q 6) :: Value.int (q 7) :: Value.ref (a 8) :: Value.ref (a 9) :: Value.ref (a 10) :: Value.ref (a 11) :: Value.ref (a 12) :: Value.ref (a 13) :: Value.int (q 14) :: Value.long v :: Value.long w :: Value.ref (a 17) :: Value.ref (a 18) :: Value.ref (a 19) :: Value.ref (a 20) :: Value.ref (a 21) :: Value.ref (a 22) :: Value.ref (a 23) :: Value.int (q 24) :: Value.ref (a 25) :: Value.int (q 26) :: Value.ref (a 27) :: Value.int (q 28) :: Value.int (q 29) :: Value.int (q 30) :: Value.int (q 31) :: Value.int (q 32) :: Value.int (q 33) :: Value.ref (a 34) :: Value.ref (a 35) :: Value.ref (a 36) :: Value.ref (a 37) :: Value.ref (a 38) :: Value.ref (a 39) :: Value.ref (a 40) :: Value.int (q 41) :: Value.ref (a 42) :: Value.int (q 43) :: Value.int (q 44) :: []))), ((a 34), .inl (T 0, 4, .inl f34)), ((a 35), .inl (T 0, 4, .inl f35)), ((a 36), .inl (T 1, 120, .inr (.inl f36))), ((a 37), .inl (T 3, 120, .inr (.inr (.inr (.inl f37)))))] sz) (fun (u : Unit) => [(h0, .inr (10, (Value.int (q 0) :: Value.int (q 1) :: Value.int (q 2) :: Value.int (q 3) :: Value.int (q 4) :: Value.int (q 5) :: Value.int (q 6) :: Value.int (q 7) :: Value.ref (a 8) :: Value.ref (a 9) :: Value.ref (a 10) :: Value.ref (a 11) :: Value.ref (a 12) :: Value.ref (a 13) :: Value.int (q 14) :: Value.long v :: Value.long w :: Value.ref (a 17) :: Value.ref (a 18) :: Value.ref (a 19) :: Value.ref (a 20) :: Value.ref (a 21) :: Value.ref (a 22) :: Value.ref (a 23) :: Value.int (q 24) :: Value.ref (a 25) :: Value.int (q 26) :: Value.ref (a 27) :: Value.int (q 28) :: Value.int (q 29) :: Value.int (q 30) :: Value.int (q 31) :: Value.int (q 32) :: Value.int (q 33) :: Value.ref (a 34) :: Value.ref (a 35) :: Value.ref (a 36) :: Value.ref (a 37) :: Value.ref (a 38) :: Value.ref (a 39) :: Value.ref (a 40) :: Value.int (q 41) :: Value.ref (a 42) :: Value.int (q 43) :: Value.int (q 44) :: []))), ((a 34), .inl (T 0, 4, .inl f34)), ((a 35), .inl (T 0, 4, .inl f35)), ((a 36), .inl (T 1, 120, .inr (.inl f36))), ((a 37), .inl (T 3, 120, .inr (.inr (.inr (.inl f37)))))])) (va_A [(h0, .inr (10, (Value.int (q 0) :: Value.int (q 1) :: Value.int (q 2) :: Value.int (q 3) :: Value.int (q 4) :: Value.int (q 5) :: Value.int (q 6) :: Value.int (q 7) :: Value.ref (a 8) :: Value.ref (a 9) :: Value.ref (a 10) :: Value.ref (a 11) :: Value.ref (a 12) :: Value.ref (a 13) :: Value.int (q 14) :: Value.long v :: Value.long w :: Value.ref (a 17) :: Value.ref (a 18) :: Value.ref (a 19) :: Value.ref (a 20) :: Value.ref (a 21) :: Value.ref (a 22) :: Value.ref (a 23) :: Value.int (q 24) :: Value.ref (a 25) :: Value.int (q 26) :: Value.ref (a 27) :: Value.int (q 28) :: Value.int (q 29) :: Value.int (q 30) :: Value.int (q 31) :: Value.int (q 32) :: Value.int (q 33) :: Value.ref (a 34) :: Value.ref (a 35) :: Value.ref (a 36) :: Value.ref (a 37) :: Value.ref (a 38) :: Value.ref (a 39) :: Value.ref (a 40) :: Value.int (q 41) :: Value.ref (a 42) :: Value.int (q 43) :: Value.int (q 44) :: []))), ((a 34), .inl (T 0, 4, .inl f34)), ((a 35), .inl (T 0, 4, .inl f35)), ((a 36), .inl (T 1, 120, .inr (.inl f36))), ((a 37), .inl (T 3, 120, .inr (.inr (.inr (.inl f37)))))] sz)) 0 0 (va_A [(h0, .inr (10, (Value.int (q 0) :: Value.int (q 1) :: Value.int (q 2) :: Value.int (q 3) :: Value.int (q 4) :: Value.int (q 5) :: Value.int (q 6) :: Value.int (q 7) :: Value.ref (a 8) :: Value.ref (a 9) :: Value.ref (a 10) :: Value.ref (a 11) :: Value.ref (a 12) :: Value.ref (a 13) :: Value.int (q 14) :: Value.long v :: Value.long w :: Value.ref (a 17) :: Value.ref (a 18) :: Value.ref (a 19) :: Value.ref (a 20) :: Value.ref (a 21) :: Value.ref (a 22) :: Value.ref (a 23) :: Value.int (q 24) :: Value.ref (a 25) :: Value.int (q 26) :: Value.ref (a 27) :: Value.int (q 28) :: Value.int (q 29) :: Value.int (q 30) :: Value.int (q 31) :: Value.int (q 32) :: Value.int (q 33) :: Value.ref (a 34) :: Value.ref (a 35) :: Value.ref (a 36) :: Value.ref (a 37) :: Value.ref (a 38) :: Value.ref (a 39) :: Value.ref (a 40) :: Value.int (q 41) :: Value.ref (a 42) :: Value.int (q 43) :: Value.int (q 44) :: []))), ((a 34), .inl (T 0, 4, .inl f34)), ((a 35), .inl (T 0, 4, .inl f35)), ((a 36), .inl (T 1, 120, .inr (.inl f36))), ((a 37), .inl (T 3, 120, .inr (.inr (.inr (.inl f37)))))] sz) := by
  refine MetD.ofW (cc := cX13_read) (maxL := 10) (ret := (some .long)) (by decide +kernel) rfl ?_
  intro p e s m args below meth c s₁ B hml hv hd0
  obtain ⟨rfl, hsz, hP, hE0, hD0⟩ := hv
  have hx := B.exec
  have hb := B.bytes
  have hr := B.returns
  have hts0 := atoms_spec (ws := wsX13_read) B.pre
  have hown0 : s.vm.findClass RX13 = some m.cls := findClass_of_methodNamed B.named
  have hlocks := B.notSynchronized
  subst hsz
  have hD := hD0.self (sz := s.heap.size)
  generalize hAe : va_A [(h0, .inr (10, (Value.int (q 0) :: Value.int (q 1) :: Value.int (q 2) :: Value.int (q 3) :: Value.int (q 4) :: Value.int (q 5) :: Value.int (q 6) :: Value.int (q 7) :: Value.ref (a 8) :: Value.ref (a 9) :: Value.ref (a 10) :: Value.ref (a 11) :: Value.ref (a 12) :: Value.ref (a 13) :: Value.int (q 14) :: Value.long v :: Value.long w :: Value.ref (a 17) :: Value.ref (a 18) :: Value.ref (a 19) :: Value.ref (a 20) :: Value.ref (a 21) :: Value.ref (a 22) :: Value.ref (a 23) :: Value.int (q 24) :: Value.ref (a 25) :: Value.int (q 26) :: Value.ref (a 27) :: Value.int (q 28) :: Value.int (q 29) :: Value.int (q 30) :: Value.int (q 31) :: Value.int (q 32) :: Value.int (q 33) :: Value.ref (a 34) :: Value.ref (a 35) :: Value.ref (a 36) :: Value.ref (a 37) :: Value.ref (a 38) :: Value.ref (a 39) :: Value.ref (a 40) :: Value.int (q 41) :: Value.ref (a 42) :: Value.int (q 43) :: Value.int (q 44) :: []))), ((a 34), .inl (T 0, 4, .inl f34)), ((a 35), .inl (T 0, 4, .inl f35)), ((a 36), .inl (T 1, 120, .inr (.inl f36))), ((a 37), .inl (T 3, 120, .inr (.inr (.inr (.inl f37)))))] s.heap.size = A at hD ⊢
  have hA : ∀ q : Nat, s.heap.size ≤ q → A q := fun q h => by rw [← hAe]; exact Or.inr h
  have hS : va_S A s.heap s.heap [] := va_S.rf
  have hP : va_P D vwCl [(h0, .inr (10, (Value.int (q 0) :: Value.int (q 1) :: Value.int (q 2) :: Value.int (q 3) :: Value.int (q 4) :: Value.int (q 5) :: Value.int (q 6) :: Value.int (q 7) :: Value.ref (a 8) :: Value.ref (a 9) :: Value.ref (a 10) :: Value.ref (a 11) :: Value.ref (a 12) :: Value.ref (a 13) :: Value.int (q 14) :: Value.long v :: Value.long w :: Value.ref (a 17) :: Value.ref (a 18) :: Value.ref (a 19) :: Value.ref (a 20) :: Value.ref (a 21) :: Value.ref (a 22) :: Value.ref (a 23) :: Value.int (q 24) :: Value.ref (a 25) :: Value.int (q 26) :: Value.ref (a 27) :: Value.int (q 28) :: Value.int (q 29) :: Value.int (q 30) :: Value.int (q 31) :: Value.int (q 32) :: Value.int (q 33) :: Value.ref (a 34) :: Value.ref (a 35) :: Value.ref (a 36) :: Value.ref (a 37) :: Value.ref (a 38) :: Value.ref (a 39) :: Value.ref (a 40) :: Value.int (q 41) :: Value.ref (a 42) :: Value.int (q 43) :: Value.int (q 44) :: []))), ((a 34), .inl (T 0, 4, .inl f34)), ((a 35), .inl (T 0, 4, .inl f35)), ((a 36), .inl (T 1, 120, .inr (.inl f36))), ((a 37), .inl (T 3, 120, .inr (.inr (.inr (.inl f37)))))] s.heap := hP
  have hl := lv_entry ([.ref h0, .int x1, .int x2, .int x3]) (n := 10) (Nat.le_of_ble_eq_true rfl)
  rw [lg_entry_eq]
  generalize (lg_sl ([.ref h0, .int x1, .int x2, .int x3]) ++ List.replicate (10 - (lg_sl ([.ref h0, .int x1, .int x2, .int x3])).length) Slot.unset).toArray = ls at hl ⊢
  have hl : lv_has ls 10 [(0, .ref h0), (1, .int x1), (2, .int x2), (3, .int x3)] := hl
  clear hD0
  have hts := dr_words hts0 s.drawn
  have hE : ekK D T (s.setDrawn s.drawn) := ekK.same (u := s) rfl hE0
  have hown : (s.setDrawn s.drawn).vm.findClass RX13 = some m.cls := hown0
  refine lv_iload_n hx hb dX13_read_0 rfl (lv_at hl 1 rfl) ?_
  refine vp_callSi (W.runS (As := [.int x1]) (rest := []) ⟨hx, hb, hml, hown, hts⟩ (c_X13_isSheet l D T x1) (va_cwS 1 hts gX13_read_X13_isSheet rfl rfl rfl hs_X13_isSheet ⟨Nat.le_of_ble_eq_true rfl, Nat.le_of_ble_eq_true rfl⟩) (pR_S hP hE [] rfl) rfl rfl hl.1 rfl (lv_room (Nat.le_of_ble_eq_true rfl)) dX13_read_1 ⟨Nat.le_of_ble_eq_true rfl, Nat.le_of_ble_eq_true rfl⟩) (fun r_1 hr_1 => ?_)
  rcases bool_post hr_1 with ⟨c_2, rfl⟩ | ⟨c_2, rfl⟩
  · refine lv_if_eq (tgt := 19) hx hb dX13_read_4 (by decide +kernel) (fun c9 => absurd c9 (by decide +kernel)) (fun _ => ?_)
    refine lv_iload_n hx hb dX13_read_7 rfl (lv_at hl 3 rfl) ?_
    refine lv_i2l hx hb dX13_read_8 rfl ?_
    refine lv_lconst (v := 0) hx hb dX13_read_9 (by decide +kernel) ?_
    refine lv_ldc2 (v := 3) hx hb hown (hts (.constantLong RX13 408 (3)) (List.mem_of_getElem? (i := 1) rfl)) dX13_read_10 ?_
    refine vp_callSi (W.runS (As := [.long (x3.toInt64), .long 0, .long 3]) (rest := []) ⟨hx, hb, hml, hown, hts⟩ (c_X13_in l D T (x3.toInt64) 0 3 x3.toInt 0 3 ((Int32.toInt_toInt64 _).trans rfl) (by decide +kernel) (by decide +kernel)) (va_cwS 3 hts gX13_read_X13_in rfl rfl rfl hs_X13_in ⟨Nat.le_of_ble_eq_true rfl, Nat.le_of_ble_eq_true rfl⟩) (pR_S hP hE [] rfl) rfl rfl hl.1 rfl (lv_room (Nat.le_of_ble_eq_true rfl)) dX13_read_13 ⟨Nat.le_of_ble_eq_true rfl, Nat.le_of_ble_eq_true rfl⟩) (fun r_3 hr_3 => ?_)
    rcases bool_post hr_3 with ⟨c_4, rfl⟩ | ⟨c_4, rfl⟩
    · refine lv_if_ne (tgt := 25) hx hb dX13_read_16 (by decide +kernel) (fun _ => ?_) (fun c9 => absurd c9 (by decide +kernel))
      refine lv_aload_n hx hb dX13_read_25 rfl (lv_at hl 0 rfl) ?_
      refine lv_iload_n hx hb dX13_read_26 rfl (lv_at hl 1 rfl) ?_
      refine lv_iload_n hx hb dX13_read_27 rfl (lv_at hl 2 rfl) ?_
      refine vp_callSi (W.runV (As := [.int x1, .int x2]) (rest := []) ⟨hx, hb, hml, hown, hts⟩ (c_X13_wrong l D T h0 [.int (q 0), .int (q 1), .int (q 2), .int (q 3), .int (q 4), .int (q 5), .int (q 6), .int (q 7), .ref (a 8), .ref (a 9), .ref (a 10), .ref (a 11), .ref (a 12), .ref (a 13), .int (q 14), .long v, .long w, .ref (a 17), .ref (a 18), .ref (a 19), .ref (a 20), .ref (a 21), .ref (a 22), .ref (a 23), .int (q 24), .ref (a 25), .int (q 26), .ref (a 27), .int (q 28), .int (q 29), .int (q 30), .int (q 31), .int (q 32), .int (q 33), .ref (a 34), .ref (a 35), .ref (a 36), .ref (a 37), .ref (a 38), .ref (a 39), .ref (a 40), .int (q 41), .ref (a 42), .int (q 43), .int (q 44)] (a 34) f34 (a 35) f35 x1 x2 rfl rfl hsz) (cwV 2 hts gX13_read_X13_wrong rfl rfl rfl hv_X13_wrong ⟨Nat.le_of_ble_eq_true rfl, Nat.le_of_ble_eq_true rfl⟩) (pR_V (q := (RX13, TX13, 45)) (ci := 10) (q0 := 0) hP hE rfl rfl [0, 1, 2] rfl) rfl rfl hl.1 rfl (lv_room (Nat.le_of_ble_eq_true rfl)) dX13_read_28 ⟨Nat.le_of_ble_eq_true rfl, Nat.le_of_ble_eq_true rfl⟩) (fun r_5 hr_5 => ?_)
      refine lv_istore (lv' := [(4, .int r_5), (0, .ref h0), (1, .int x1), (2, .int x2), (3, .int x3)]) hx hb dX13_read_31 hl (by decide +kernel) rfl (fun ls hl => ?_)
      refine lv_iload hx hb dX13_read_33 (lv_at hl 0 rfl) ?_
      refine lv_if_eq (tgt := 44) hx hb dX13_read_35 (by decide +kernel) (fun c_6 => ?_) (fun c_6 => ?_)
      · rw [fa_eq] at c_6
        try rw [ti_0] at c_6
        have hwr := hr_5.1 (by omega)
        have h30 : (30 * x1).toInt = 30 * x1.toInt := by rw [fb_mulI (by rw [ti_30]; omega) (by rw [ti_30]; omega), ti_30]
        refine lv_aload_n hx hb dX13_read_44 rfl (lv_at hl 1 rfl) ?_
        refine va_get (D := D) (ci := 10) (v := .ref (a 36)) (C := RX13) (T := TX13) (N := 45) hx hb hts in_X13_read_X13 hown hE.1 hP 0 rfl rfl 36 (by decide +kernel) (hts (.fieldLink RX13 110 "ClauseBookModel" "whole" "[J") (List.mem_of_getElem? (i := 2) rfl)) (fun _ h9 => h9) rfl dX13_read_45 ?_
        refine lv_bipush (v := 30) hx hb dX13_read_48 (by decide +kernel) ?_
        refine lv_iload_n hx hb dX13_read_50 rfl (lv_at hl 2 rfl) ?_
        refine lv_imul hx hb dX13_read_51 ?_
        refine lv_iload_n hx hb dX13_read_52 rfl (lv_at hl 3 rfl) ?_
        refine lv_iadd hx hb dX13_read_53 ?_
        refine va_lald hx hb hE.1 hP 3 1 rfl rfl (by rw [vp_in_iff]; first | omega | (rw [fb_addI (by omega) (by omega)]; omega)) dX13_read_54 ?_
        refine lv_topl (fun z_7 ez_7 => ?_)
        refine lv_lstore (lv' := [(5, .long z_7), (4, .int r_5), (0, .ref h0), (1, .int x1), (2, .int x2), (3, .int x3)]) hx hb dX13_read_55 hl (by decide +kernel) rfl (fun ls hl => ?_)
        refine lv_aload_n hx hb dX13_read_57 rfl (lv_at hl 2 rfl) ?_
        refine va_get (D := D) (ci := 10) (v := .ref (a 37)) (C := RX13) (T := TX13) (N := 45) hx hb hts in_X13_read_X13 hown hE.1 hP 0 rfl rfl 37 (by decide +kernel) (hts (.fieldLink RX13 113 "ClauseBookModel" "host" "[D") (List.mem_of_getElem? (i := 3) rfl)) (fun _ h9 => h9) rfl dX13_read_58 ?_
        refine lv_bipush (v := 30) hx hb dX13_read_61 (by decide +kernel) ?_
        refine lv_iload_n hx hb dX13_read_63 rfl (lv_at hl 3 rfl) ?_
        refine lv_imul hx hb dX13_read_64 ?_
        refine lv_iload_n hx hb dX13_read_65 rfl (lv_at hl 4 rfl) ?_
        refine lv_iadd hx hb dX13_read_66 ?_
        refine va_dald hx hb hE.1 hP 4 3 rfl rfl (by rw [vp_in_iff]; first | omega | (rw [fb_addI (by omega) (by omega)]; omega)) dX13_read_67 ?_
        obtain ⟨z_8, ez_8⟩ : ∃ y : UInt64, y = (f37 ((30 * x1) + x2).toNatClampNeg) := ⟨_, rfl⟩
        refine W.eq (g2 := F0 m 68 ls [.double z_8]) (by rw [ez_8]) ?_
        clear ez_8
        refine lv_dstore (lv' := [(7, .double z_8), (5, .long z_7), (4, .int r_5), (0, .ref h0), (1, .int x1), (2, .int x2), (3, .int x3)]) hx hb dX13_read_68 hl (by decide +kernel) rfl (fun ls hl => ?_)
        refine lv_aload_n hx hb dX13_read_70 rfl (lv_at hl 3 rfl) ?_
        refine va_get (D := D) (ci := 10) (v := .ref (a 34)) (C := RX13) (T := TX13) (N := 45) hx hb hts in_X13_read_X13 hown hE.1 hP 0 rfl rfl 34 (by decide +kernel) (hts (.fieldLink RX13 104 "ClauseBookModel" "sorts" "[I") (List.mem_of_getElem? (i := 4) rfl)) (fun _ h9 => h9) rfl dX13_read_71 ?_
        refine lv_iload_n hx hb dX13_read_74 rfl (lv_at hl 4 rfl) ?_
        refine va_iald hx hb hE.1 hP 1 0 rfl rfl (by rw [vp_in_iff]; first | omega | (rw [fb_addI (by omega) (by omega)]; omega)) dX13_read_75 ?_
        refine lv_topi (fun z_9 ez_9 => ?_)
        refine lv_iconst (v := 2) hx hb dX13_read_76 (by decide +kernel) ?_
        refine lv_icmp_ge (tgt := 84) hx hb dX13_read_77 (by decide +kernel) (fun c_10 => ?_) (fun c_10 => ?_)
        · rw [fa_le] at c_10
          try rw [ti_2] at c_10
          refine lv_iconst (v := 0) hx hb dX13_read_84 (by decide +kernel) ?_
          refine lv_istore (lv' := [(9, .int 0), (7, .double z_8), (5, .long z_7), (4, .int r_5), (0, .ref h0), (1, .int x1), (2, .int x2), (3, .int x3)]) hx hb dX13_read_85 hl (by decide +kernel) rfl (fun ls hl => ?_)
          refine lv_iload_n hx hb dX13_read_87 rfl (lv_at hl 7 rfl) ?_
          by_cases k_11 : x3 = 0
          · subst k_11
            refine lv_tableIn (off := 28) (tgt := 116) hx hb dX13_read_88 (by decide +kernel) (by decide +kernel) (by decide +kernel) (by decide +kernel) ?_
            refine lv_iload hx hb dX13_read_116 (lv_at hl 0 rfl) ?_
            refine lv_if_eq (tgt := 126) hx hb dX13_read_118 (by decide +kernel) (fun _ => ?_) (fun c9 => absurd c9 (by decide +kernel))
            refine lv_aload_n hx hb dX13_read_126 rfl (lv_at hl 4 rfl) ?_
            refine va_get (D := D) (ci := 10) (v := .ref (a 34)) (C := RX13) (T := TX13) (N := 45) hx hb hts in_X13_read_X13 hown hE.1 hP 0 rfl rfl 34 (by decide +kernel) (hts (.fieldLink RX13 104 "ClauseBookModel" "sorts" "[I") (List.mem_of_getElem? (i := 4) rfl)) (fun _ h9 => h9) rfl dX13_read_127 ?_
            refine lv_iload_n hx hb dX13_read_130 rfl (lv_at hl 5 rfl) ?_
            refine va_iald hx hb hE.1 hP 1 0 rfl rfl (by rw [vp_in_iff]; first | omega | (rw [fb_addI (by omega) (by omega)]; omega)) dX13_read_131 ?_
            refine lv_topi (fun z_12 ez_12 => ?_)
            refine lv_iconst (v := 2) hx hb dX13_read_132 (by decide +kernel) ?_
            refine lv_icmp_ne (tgt := 146) hx hb dX13_read_133 (by decide +kernel) (fun c_13 => ?_) (fun c_13 => ?_)
            · rw [fa_eq] at c_13
              try rw [ti_2] at c_13
              refine lv_dload hx hb dX13_read_146 (lv_at hl 1 rfl) ?_
              refine vp_callSl (W.runS (As := [.double z_8]) (rest := []) ⟨hx, hb, hml, hown, hts⟩ (c_Jxe99ae_doubleToLongBits_ccdee l D T z_8) (va_cwS 1 hts gX13_read_Jxe99ae_doubleToLongBits_ccdee rfl rfl rfl hs_Jxe99ae_doubleToLongBits_ccdee ⟨Nat.le_of_ble_eq_true rfl, Nat.le_of_ble_eq_true rfl⟩) (pR_S hP hE [] rfl) rfl rfl hl.1 rfl (lv_room (Nat.le_of_ble_eq_true rfl)) dX13_read_148 ⟨Nat.le_of_ble_eq_true rfl, Nat.le_of_ble_eq_true rfl⟩) (fun r_14 hr_14 => ?_)
              refine W.endD hd0 ?_
              exact W.lret hx hb hr (fun t ht hW => ⟨⟨_, (), rfl, trivial, by rw [ht]; exact hP.sub [0, 1, 2, 3, 4] rfl, hD.sub [0, 1, 2, 3, 4] (by decide +kernel) rfl⟩, hS.F ht⟩) hS.2.2 dX13_read_151
            · rw [fa_eq] at c_13
              try rw [ti_2] at c_13
              refine lv_dload hx hb dX13_read_136 (lv_at hl 1 rfl) ?_
              refine lv_d2f_any hd0 lw_bits hx hb dX13_read_138 (fun r_15 d_16 _ hd_16 => ?_)
              have hts := dr_words hts0 d_16
              have hE : ekK D T (s.setDrawn d_16) := ekK.same (u := s) rfl hE0
              have hown : (s.setDrawn d_16).vm.findClass RX13 = some m.cls := hown0
              refine vp_callSi (W.runS (As := [.float r_15]) (rest := []) ⟨hx, hb, hml, hown, hts⟩ (c_Jxf58ca_floatToIntBits_5c35a l D T r_15) (va_cwS 1 hts gX13_read_Jxf58ca_floatToIntBits_5c35a rfl rfl rfl hs_Jxf58ca_floatToIntBits_5c35a ⟨Nat.le_of_ble_eq_true rfl, Nat.le_of_ble_eq_true rfl⟩) (pR_S hP hE [] rfl) rfl rfl hl.1 rfl (lv_room (Nat.le_of_ble_eq_true rfl)) dX13_read_139 ⟨Nat.le_of_ble_eq_true rfl, Nat.le_of_ble_eq_true rfl⟩) (fun r_17 hr_17 => ?_)
              refine lv_i2l hx hb dX13_read_142 rfl ?_
              refine lv_goto (tgt := 151) hx hb dX13_read_143 (by decide +kernel) ?_
              refine W.endD hd_16 ?_
              exact W.lret hx hb hr (fun t ht hW => ⟨⟨_, (), rfl, trivial, by rw [ht]; exact hP.sub [0, 1, 2, 3, 4] rfl, hD.sub [0, 1, 2, 3, 4] (by decide +kernel) rfl⟩, hS.F ht⟩) hS.2.2 dX13_read_151
          by_cases k_18 : x3 = 1
          · subst k_18
            refine lv_tableIn (off := 64) (tgt := 152) hx hb dX13_read_88 (by decide +kernel) (by decide +kernel) (by decide +kernel) (by decide +kernel) ?_
            refine lv_iload hx hb dX13_read_152 (lv_at hl 0 rfl) ?_
            refine lv_if_eq (tgt := 164) hx hb dX13_read_154 (by decide +kernel) (fun _ => ?_) (fun c9 => absurd c9 (by decide +kernel))
            refine lv_dload hx hb dX13_read_164 (lv_at hl 1 rfl) ?_
            refine lv_d2i hx hb dX13_read_166 ?_
            refine lv_topi (fun z_19 ez_19 => ?_)
            refine lv_i2l hx hb dX13_read_167 rfl ?_
            refine W.endD hd0 ?_
            exact W.lret hx hb hr (fun t ht hW => ⟨⟨_, (), rfl, trivial, by rw [ht]; exact hP.sub [0, 1, 2, 3, 4] rfl, hD.sub [0, 1, 2, 3, 4] (by decide +kernel) rfl⟩, hS.F ht⟩) hS.2.2 dX13_read_168
          by_cases k_20 : x3 = 2
          · subst k_20
            refine lv_tableIn (off := 81) (tgt := 169) hx hb dX13_read_88 (by decide +kernel) (by decide +kernel) (by decide +kernel) (by decide +kernel) ?_
            refine lv_iload hx hb dX13_read_169 (lv_at hl 0 rfl) ?_
            refine lv_if_eq (tgt := 179) hx hb dX13_read_171 (by decide +kernel) (fun _ => ?_) (fun c9 => absurd c9 (by decide +kernel))
            refine lv_dload hx hb dX13_read_179 (lv_at hl 1 rfl) ?_
            refine lv_d2l hx hb dX13_read_181 ?_
            refine lv_topl (fun z_21 ez_21 => ?_)
            refine W.endD hd0 ?_
            exact W.lret hx hb hr (fun t ht hW => ⟨⟨_, (), rfl, trivial, by rw [ht]; exact hP.sub [0, 1, 2, 3, 4] rfl, hD.sub [0, 1, 2, 3, 4] (by decide +kernel) rfl⟩, hS.F ht⟩) hS.2.2 dX13_read_182
          rw [fa_eq] at k_11 k_18 k_20
          try simp only [ti_0, ti_1, ti_2] at k_11 k_18 k_20
          refine lv_tableOut (tgt := 183) hx hb dX13_read_88 (by omega) (by decide +kernel) ?_
          refine lv_iload hx hb dX13_read_183 (lv_at hl 0 rfl) ?_
          refine lv_if_eq (tgt := 194) hx hb dX13_read_185 (by decide +kernel) (fun _ => ?_) (fun c9 => absurd c9 (by decide +kernel))
          refine lv_dload hx hb dX13_read_194 (lv_at hl 1 rfl) ?_
          refine lv_ldc2d (v := 4619567317775286272) hx hb hown (hts (.constantDouble RX13 413 (4619567317775286272)) (List.mem_of_getElem? (i := 5) rfl)) dX13_read_196 ?_
          refine lv_drem_any hd0 lw_bits hx hb dX13_read_199 (fun r_22 d_23 _ hd_23 => ?_)
          have hts := dr_words hts0 d_23
          have hE : ekK D T (s.setDrawn d_23) := ekK.same (u := s) rfl hE0
          have hown : (s.setDrawn d_23).vm.findClass RX13 = some m.cls := hown0
          refine vp_callSl (W.runS (As := [.double r_22]) (rest := []) ⟨hx, hb, hml, hown, hts⟩ (c_Jxe99ae_doubleToLongBits_ccdee l D T r_22) (va_cwS 1 hts gX13_read_Jxe99ae_doubleToLongBits_ccdee rfl rfl rfl hs_Jxe99ae_doubleToLongBits_ccdee ⟨Nat.le_of_ble_eq_true rfl, Nat.le_of_ble_eq_true rfl⟩) (pR_S hP hE [] rfl) rfl rfl hl.1 rfl (lv_room (Nat.le_of_ble_eq_true rfl)) dX13_read_200 ⟨Nat.le_of_ble_eq_true rfl, Nat.le_of_ble_eq_true rfl⟩) (fun r_24 hr_24 => ?_)
          refine W.endD hd_23 ?_
          exact W.lret hx hb hr (fun t ht hW => ⟨⟨_, (), rfl, trivial, by rw [ht]; exact hP.sub [0, 1, 2, 3, 4] rfl, hD.sub [0, 1, 2, 3, 4] (by decide +kernel) rfl⟩, hS.F ht⟩) hS.2.2 dX13_read_203
        · rw [fa_le] at c_10
          try rw [ti_2] at c_10
          refine lv_iconst (v := 1) hx hb dX13_read_80 (by decide +kernel) ?_
          refine lv_goto (tgt := 85) hx hb dX13_read_81 (by decide +kernel) ?_
          refine lv_istore (lv' := [(9, .int 1), (7, .double z_8), (5, .long z_7), (4, .int r_5), (0, .ref h0), (1, .int x1), (2, .int x2), (3, .int x3)]) hx hb dX13_read_85 hl (by decide +kernel) rfl (fun ls hl => ?_)
          refine lv_iload_n hx hb dX13_read_87 rfl (lv_at hl 7 rfl) ?_
          by_cases k_25 : x3 = 0
          · subst k_25
            refine lv_tableIn (off := 28) (tgt := 116) hx hb dX13_read_88 (by decide +kernel) (by decide +kernel) (by decide +kernel) (by decide +kernel) ?_
            refine lv_iload hx hb dX13_read_116 (lv_at hl 0 rfl) ?_
            refine lv_if_eq (tgt := 126) hx hb dX13_read_118 (by decide +kernel) (fun c9 => absurd c9 (by decide +kernel)) (fun _ => ?_)
            refine lv_lload hx hb dX13_read_121 (lv_at hl 2 rfl) ?_
            refine lv_goto (tgt := 151) hx hb dX13_read_123 (by decide +kernel) ?_
            refine W.endD hd0 ?_
            exact W.lret hx hb hr (fun t ht hW => ⟨⟨_, (), rfl, trivial, by rw [ht]; exact hP.sub [0, 1, 2, 3, 4] rfl, hD.sub [0, 1, 2, 3, 4] (by decide +kernel) rfl⟩, hS.F ht⟩) hS.2.2 dX13_read_151
          by_cases k_26 : x3 = 1
          · subst k_26
            refine lv_tableIn (off := 64) (tgt := 152) hx hb dX13_read_88 (by decide +kernel) (by decide +kernel) (by decide +kernel) (by decide +kernel) ?_
            refine lv_iload hx hb dX13_read_152 (lv_at hl 0 rfl) ?_
            refine lv_if_eq (tgt := 164) hx hb dX13_read_154 (by decide +kernel) (fun c9 => absurd c9 (by decide +kernel)) (fun _ => ?_)
            refine lv_lload hx hb dX13_read_157 (lv_at hl 2 rfl) ?_
            refine lv_l2i hx hb dX13_read_159 rfl ?_
            refine lv_i2l hx hb dX13_read_160 rfl ?_
            refine lv_goto (tgt := 168) hx hb dX13_read_161 (by decide +kernel) ?_
            refine W.endD hd0 ?_
            exact W.lret hx hb hr (fun t ht hW => ⟨⟨_, (), rfl, trivial, by rw [ht]; exact hP.sub [0, 1, 2, 3, 4] rfl, hD.sub [0, 1, 2, 3, 4] (by decide +kernel) rfl⟩, hS.F ht⟩) hS.2.2 dX13_read_168
          by_cases k_27 : x3 = 2
          · subst k_27
            refine lv_tableIn (off := 81) (tgt := 169) hx hb dX13_read_88 (by decide +kernel) (by decide +kernel) (by decide +kernel) (by decide +kernel) ?_
            refine lv_iload hx hb dX13_read_169 (lv_at hl 0 rfl) ?_
            refine lv_if_eq (tgt := 179) hx hb dX13_read_171 (by decide +kernel) (fun c9 => absurd c9 (by decide +kernel)) (fun _ => ?_)
            refine lv_lload hx hb dX13_read_174 (lv_at hl 2 rfl) ?_
            refine lv_goto (tgt := 182) hx hb dX13_read_176 (by decide +kernel) ?_
            refine W.endD hd0 ?_
            exact W.lret hx hb hr (fun t ht hW => ⟨⟨_, (), rfl, trivial, by rw [ht]; exact hP.sub [0, 1, 2, 3, 4] rfl, hD.sub [0, 1, 2, 3, 4] (by decide +kernel) rfl⟩, hS.F ht⟩) hS.2.2 dX13_read_182
          rw [fa_eq] at k_25 k_26 k_27
          try simp only [ti_0, ti_1, ti_2] at k_25 k_26 k_27
          refine lv_tableOut (tgt := 183) hx hb dX13_read_88 (by omega) (by decide +kernel) ?_
          refine lv_iload hx hb dX13_read_183 (lv_at hl 0 rfl) ?_
          refine lv_if_eq (tgt := 194) hx hb dX13_read_185 (by decide +kernel) (fun c9 => absurd c9 (by decide +kernel)) (fun _ => ?_)
          refine lv_lload hx hb dX13_read_188 (lv_at hl 2 rfl) ?_
          refine lv_l2d hx hb dX13_read_190 ?_
          refine lv_goto (tgt := 196) hx hb dX13_read_191 (by decide +kernel) ?_
          refine lv_ldc2d (v := 4619567317775286272) hx hb hown (hts (.constantDouble RX13 413 (4619567317775286272)) (List.mem_of_getElem? (i := 5) rfl)) dX13_read_196 ?_
          refine lv_drem_any hd0 lw_bits hx hb dX13_read_199 (fun r_28 d_29 _ hd_29 => ?_)
          have hts := dr_words hts0 d_29
          have hE : ekK D T (s.setDrawn d_29) := ekK.same (u := s) rfl hE0
          have hown : (s.setDrawn d_29).vm.findClass RX13 = some m.cls := hown0
          refine vp_callSl (W.runS (As := [.double r_28]) (rest := []) ⟨hx, hb, hml, hown, hts⟩ (c_Jxe99ae_doubleToLongBits_ccdee l D T r_28) (va_cwS 1 hts gX13_read_Jxe99ae_doubleToLongBits_ccdee rfl rfl rfl hs_Jxe99ae_doubleToLongBits_ccdee ⟨Nat.le_of_ble_eq_true rfl, Nat.le_of_ble_eq_true rfl⟩) (pR_S hP hE [] rfl) rfl rfl hl.1 rfl (lv_room (Nat.le_of_ble_eq_true rfl)) dX13_read_200 ⟨Nat.le_of_ble_eq_true rfl, Nat.le_of_ble_eq_true rfl⟩) (fun r_30 hr_30 => ?_)
          refine W.endD hd_29 ?_
          exact W.lret hx hb hr (fun t ht hW => ⟨⟨_, (), rfl, trivial, by rw [ht]; exact hP.sub [0, 1, 2, 3, 4] rfl, hD.sub [0, 1, 2, 3, 4] (by decide +kernel) rfl⟩, hS.F ht⟩) hS.2.2 dX13_read_203
      · rw [fa_eq] at c_6
        try rw [ti_0] at c_6
        refine lv_iload hx hb dX13_read_38 (lv_at hl 0 rfl) ?_
        refine vp_callSl (W.runS (As := [.int r_5]) (rest := []) ⟨hx, hb, hml, hown, hts⟩ (c_X13_refused l D T r_5 (by omega)) (va_cwS 1 hts gX13_read_X13_refused rfl rfl rfl hs_X13_refused ⟨Nat.le_of_ble_eq_true rfl, Nat.le_of_ble_eq_true rfl⟩) (pR_S hP hE [] rfl) rfl rfl hl.1 rfl (lv_room (Nat.le_of_ble_eq_true rfl)) dX13_read_40 ⟨Nat.le_of_ble_eq_true rfl, Nat.le_of_ble_eq_true rfl⟩) (fun r_31 hr_31 => ?_)
        refine W.endD hd0 ?_
        exact W.lret hx hb hr (fun t ht hW => ⟨⟨_, (), rfl, trivial, by rw [ht]; exact hP.sub [0, 1, 2, 3, 4] rfl, hD.sub [0, 1, 2, 3, 4] (by decide +kernel) rfl⟩, hS.F ht⟩) hS.2.2 dX13_read_43
    · refine lv_if_ne (tgt := 25) hx hb dX13_read_16 (by decide +kernel) (fun c9 => absurd c9 (by decide +kernel)) (fun _ => ?_)
      refine lv_bipush (v := (-2)) hx hb dX13_read_19 (by decide +kernel) ?_
      refine vp_callSl (W.runS (As := [.int (-2)]) (rest := []) ⟨hx, hb, hml, hown, hts⟩ (c_X13_refused l D T (-2) (by decide +kernel)) (va_cwS 1 hts gX13_read_X13_refused rfl rfl rfl hs_X13_refused ⟨Nat.le_of_ble_eq_true rfl, Nat.le_of_ble_eq_true rfl⟩) (pR_S hP hE [] rfl) rfl rfl hl.1 rfl (lv_room (Nat.le_of_ble_eq_true rfl)) dX13_read_21 ⟨Nat.le_of_ble_eq_true rfl, Nat.le_of_ble_eq_true rfl⟩) (fun r_32 hr_32 => ?_)
      refine W.endD hd0 ?_
      exact W.lret hx hb hr (fun t ht hW => ⟨⟨_, (), rfl, trivial, by rw [ht]; exact hP.sub [0, 1, 2, 3, 4] rfl, hD.sub [0, 1, 2, 3, 4] (by decide +kernel) rfl⟩, hS.F ht⟩) hS.2.2 dX13_read_24
  · refine lv_if_eq (tgt := 19) hx hb dX13_read_4 (by decide +kernel) (fun _ => ?_) (fun c9 => absurd c9 (by decide +kernel))
    refine lv_bipush (v := (-2)) hx hb dX13_read_19 (by decide +kernel) ?_
    refine vp_callSl (W.runS (As := [.int (-2)]) (rest := []) ⟨hx, hb, hml, hown, hts⟩ (c_X13_refused l D T (-2) (by decide +kernel)) (va_cwS 1 hts gX13_read_X13_refused rfl rfl rfl hs_X13_refused ⟨Nat.le_of_ble_eq_true rfl, Nat.le_of_ble_eq_true rfl⟩) (pR_S hP hE [] rfl) rfl rfl hl.1 rfl (lv_room (Nat.le_of_ble_eq_true rfl)) dX13_read_21 ⟨Nat.le_of_ble_eq_true rfl, Nat.le_of_ble_eq_true rfl⟩) (fun r_33 hr_33 => ?_)
    refine W.endD hd0 ?_
    exact W.lret hx hb hr (fun t ht hW => ⟨⟨_, (), rfl, trivial, by rw [ht]; exact hP.sub [0, 1, 2, 3, 4] rfl, hD.sub [0, 1, 2, 3, 4] (by decide +kernel) rfl⟩, hS.F ht⟩) hS.2.2 dX13_read_24
end
section
theorem dX13_valueAs_0 : decode cX13_valueAs 0 = .ok (.aload_n 0, 1) := by decide +kernel
theorem dX13_valueAs_1 : decode cX13_valueAs 1 = .ok (.iload_n 1, 1) := by decide +kernel
theorem dX13_valueAs_10 : decode cX13_valueAs 10 = .ok (.invokestatic 188, 3) := by decide +kernel
theorem dX13_valueAs_120 : decode cX13_valueAs 120 = .ok (.dload 6, 2) := by decide +kernel
theorem dX13_valueAs_122 : decode cX13_valueAs 122 = .ok (.ldc2_w 280, 3) := by decide +kernel
theorem dX13_valueAs_125 : decode cX13_valueAs 125 = .ok (.dmul, 1) := by decide +kernel
theorem dX13_valueAs_126 : decode cX13_valueAs 126 = .ok (.d2l, 1) := by decide +kernel
theorem dX13_valueAs_127 : decode cX13_valueAs 127 = .ok (.lreturn, 1) := by decide +kernel
theorem dX13_valueAs_128 : decode cX13_valueAs 128 = .ok (.dload 6, 2) := by decide +kernel
theorem dX13_valueAs_13 : decode cX13_valueAs 13 = .ok (.ifCond .eq 16, 3) := by decide +kernel
theorem dX13_valueAs_130 : decode cX13_valueAs 130 = .ok (.d2f, 1) := by decide +kernel
theorem dX13_valueAs_131 : decode cX13_valueAs 131 = .ok (.invokestatic 282, 3) := by decide +kernel
theorem dX13_valueAs_134 : decode cX13_valueAs 134 = .ok (.i2l, 1) := by decide +kernel
theorem dX13_valueAs_135 : decode cX13_valueAs 135 = .ok (.lreturn, 1) := by decide +kernel
theorem dX13_valueAs_136 : decode cX13_valueAs 136 = .ok (.dload 6, 2) := by decide +kernel
theorem dX13_valueAs_138 : decode cX13_valueAs 138 = .ok (.invokestatic 288, 3) := by decide +kernel
theorem dX13_valueAs_141 : decode cX13_valueAs 141 = .ok (.lreturn, 1) := by decide +kernel
theorem dX13_valueAs_142 : decode cX13_valueAs 142 = .ok (.dload 6, 2) := by decide +kernel
theorem dX13_valueAs_144 : decode cX13_valueAs 144 = .ok (.dconst 1, 1) := by decide +kernel
theorem dX13_valueAs_145 : decode cX13_valueAs 145 = .ok (.drem, 1) := by decide +kernel
theorem dX13_valueAs_146 : decode cX13_valueAs 146 = .ok (.ldc2_w 294, 3) := by decide +kernel
theorem dX13_valueAs_149 : decode cX13_valueAs 149 = .ok (.dmul, 1) := by decide +kernel
theorem dX13_valueAs_150 : decode cX13_valueAs 150 = .ok (.d2i, 1) := by decide +kernel
theorem dX13_valueAs_151 : decode cX13_valueAs 151 = .ok (.i2l, 1) := by decide +kernel
theorem dX13_valueAs_152 : decode cX13_valueAs 152 = .ok (.lreturn, 1) := by decide +kernel
theorem dX13_valueAs_153 : decode cX13_valueAs 153 = .ok (.dload 6, 2) := by decide +kernel
theorem dX13_valueAs_155 : decode cX13_valueAs 155 = .ok (.ldc2_w 296, 3) := by decide +kernel
theorem dX13_valueAs_158 : decode cX13_valueAs 158 = .ok (.drem, 1) := by decide +kernel
theorem dX13_valueAs_159 : decode cX13_valueAs 159 = .ok (.invokestatic 288, 3) := by decide +kernel
theorem dX13_valueAs_16 : decode cX13_valueAs 16 = .ok (.iload 4, 2) := by decide +kernel
theorem dX13_valueAs_162 : decode cX13_valueAs 162 = .ok (.lreturn, 1) := by decide +kernel
theorem dX13_valueAs_163 : decode cX13_valueAs 163 = .ok (.dload 6, 2) := by decide +kernel
theorem dX13_valueAs_165 : decode cX13_valueAs 165 = .ok (.d2f, 1) := by decide +kernel
theorem dX13_valueAs_166 : decode cX13_valueAs 166 = .ok (.ldc_w 298, 3) := by decide +kernel
theorem dX13_valueAs_169 : decode cX13_valueAs 169 = .ok (.frem, 1) := by decide +kernel
theorem dX13_valueAs_170 : decode cX13_valueAs 170 = .ok (.invokestatic 282, 3) := by decide +kernel
theorem dX13_valueAs_173 : decode cX13_valueAs 173 = .ok (.i2l, 1) := by decide +kernel
theorem dX13_valueAs_174 : decode cX13_valueAs 174 = .ok (.lreturn, 1) := by decide +kernel
theorem dX13_valueAs_18 : decode cX13_valueAs 18 = .ok (.i2l, 1) := by decide +kernel
theorem dX13_valueAs_19 : decode cX13_valueAs 19 = .ok (.lconst 0, 1) := by decide +kernel
theorem dX13_valueAs_2 : decode cX13_valueAs 2 = .ok (.invokevirtual 233, 3) := by decide +kernel
theorem dX13_valueAs_20 : decode cX13_valueAs 20 = .ok (.ldc2_w 278, 3) := by decide +kernel
theorem dX13_valueAs_23 : decode cX13_valueAs 23 = .ok (.invokestatic 175, 3) := by decide +kernel
theorem dX13_valueAs_26 : decode cX13_valueAs 26 = .ok (.ifCond .ne 9, 3) := by decide +kernel
theorem dX13_valueAs_29 : decode cX13_valueAs 29 = .ok (.bipush (-2), 2) := by decide +kernel
theorem dX13_valueAs_31 : decode cX13_valueAs 31 = .ok (.invokestatic 270, 3) := by decide +kernel
theorem dX13_valueAs_34 : decode cX13_valueAs 34 = .ok (.lreturn, 1) := by decide +kernel
theorem dX13_valueAs_35 : decode cX13_valueAs 35 = .ok (.aload_n 0, 1) := by decide +kernel
theorem dX13_valueAs_36 : decode cX13_valueAs 36 = .ok (.iload_n 1, 1) := by decide +kernel
theorem dX13_valueAs_37 : decode cX13_valueAs 37 = .ok (.invokevirtual 274, 3) := by decide +kernel
theorem dX13_valueAs_40 : decode cX13_valueAs 40 = .ok (.iload_n 1, 1) := by decide +kernel
theorem dX13_valueAs_41 : decode cX13_valueAs 41 = .ok (.iload_n 2, 1) := by decide +kernel
theorem dX13_valueAs_42 : decode cX13_valueAs 42 = .ok (.iload_n 3, 1) := by decide +kernel
theorem dX13_valueAs_43 : decode cX13_valueAs 43 = .ok (.invokestatic 239, 3) := by decide +kernel
theorem dX13_valueAs_46 : decode cX13_valueAs 46 = .ok (.istore 5, 2) := by decide +kernel
theorem dX13_valueAs_48 : decode cX13_valueAs 48 = .ok (.aload_n 0, 1) := by decide +kernel
theorem dX13_valueAs_49 : decode cX13_valueAs 49 = .ok (.getfield 63, 3) := by decide +kernel
theorem dX13_valueAs_5 : decode cX13_valueAs 5 = .ok (.ifCond .eq 24, 3) := by decide +kernel
theorem dX13_valueAs_52 : decode cX13_valueAs 52 = .ok (.iload 5, 2) := by decide +kernel
theorem dX13_valueAs_54 : decode cX13_valueAs 54 = .ok (.baload, 1) := by decide +kernel
theorem dX13_valueAs_55 : decode cX13_valueAs 55 = .ok (.ifCond .eq 9, 3) := by decide +kernel
theorem dX13_valueAs_58 : decode cX13_valueAs 58 = .ok (.bipush (-5), 2) := by decide +kernel
theorem dX13_valueAs_60 : decode cX13_valueAs 60 = .ok (.invokestatic 270, 3) := by decide +kernel
theorem dX13_valueAs_63 : decode cX13_valueAs 63 = .ok (.lreturn, 1) := by decide +kernel
theorem dX13_valueAs_64 : decode cX13_valueAs 64 = .ok (.aload_n 0, 1) := by decide +kernel
theorem dX13_valueAs_65 : decode cX13_valueAs 65 = .ok (.getfield 56, 3) := by decide +kernel
theorem dX13_valueAs_68 : decode cX13_valueAs 68 = .ok (.iload 5, 2) := by decide +kernel
theorem dX13_valueAs_70 : decode cX13_valueAs 70 = .ok (.laload, 1) := by decide +kernel
theorem dX13_valueAs_71 : decode cX13_valueAs 71 = .ok (.l2d, 1) := by decide +kernel
theorem dX13_valueAs_72 : decode cX13_valueAs 72 = .ok (.aload_n 0, 1) := by decide +kernel
theorem dX13_valueAs_73 : decode cX13_valueAs 73 = .ok (.getfield 60, 3) := by decide +kernel
theorem dX13_valueAs_76 : decode cX13_valueAs 76 = .ok (.iload 5, 2) := by decide +kernel
theorem dX13_valueAs_78 : decode cX13_valueAs 78 = .ok (.laload, 1) := by decide +kernel
theorem dX13_valueAs_79 : decode cX13_valueAs 79 = .ok (.l2d, 1) := by decide +kernel
theorem dX13_valueAs_8 : decode cX13_valueAs 8 = .ok (.iload_n 2, 1) := by decide +kernel
theorem dX13_valueAs_80 : decode cX13_valueAs 80 = .ok (.ddiv, 1) := by decide +kernel
theorem dX13_valueAs_81 : decode cX13_valueAs 81 = .ok (.dstore 6, 2) := by decide +kernel
theorem dX13_valueAs_83 : decode cX13_valueAs 83 = .ok (.iload 4, 2) := by decide +kernel
theorem dX13_valueAs_85 : decode cX13_valueAs 85 = .ok (.tableswitch 78 0 4 #[35, 43, 51, 57, 68], 35) := by decide +kernel
theorem dX13_valueAs_9 : decode cX13_valueAs 9 = .ok (.iload_n 3, 1) := by decide +kernel
set_option maxRecDepth 20000 in
theorem ggX13_valueAs_Jxe99ae_doubleToLongBits_ccdee : GoodIn wsX13_valueAs wsJxe99ae_doubleToLongBits_ccdee := goodIn_r _ [139, 140, 141, 142, 143, 144, 145, 146, 138, 147] rfl (by decide +kernel)
set_option maxRecDepth 20000 in
theorem ggX13_valueAs_Jxf58ca_floatToIntBits_5c35a : GoodIn wsX13_valueAs wsJxf58ca_floatToIntBits_5c35a := goodIn_r _ [127, 128, 129, 130, 131, 132, 133, 134, 126, 135] rfl (by decide +kernel)
set_option maxRecDepth 20000 in
theorem ggX13_valueAs_X13_at : GoodIn wsX13_valueAs wsX13_at := goodIn_r _ [72] rfl (by decide +kernel)
set_option maxRecDepth 20000 in
theorem ggX13_valueAs_X13_in : GoodIn wsX13_valueAs wsX13_in := goodIn_r _ [17] rfl (by decide +kernel)
set_option maxRecDepth 20000 in
theorem ggX13_valueAs_X13_isClause : GoodIn wsX13_valueAs wsX13_isClause := goodIn_r _ [13, 14, 15, 16, 12, 17, 148, 149, 150, 151, 152, 153, 154, 155, 156, 157, 158, 159, 160, 161, 162, 163, 164, 165, 166, 167, 168, 169, 170, 171, 172, 173, 174, 175, 176, 177, 178, 179, 180, 181, 182, 183, 184, 185, 186, 187, 188, 189, 190, 191, 192] rfl (by decide +kernel)
set_option maxRecDepth 20000 in
theorem ggX13_valueAs_X13_isSpot : GoodIn wsX13_valueAs wsX13_isSpot := goodIn_r _ [20, 21, 15, 16, 12, 17] rfl (by decide +kernel)
set_option maxRecDepth 40000 in
theorem ggX13_valueAs_X13_laysWorths_0 : GoodIn wsX13_valueAs [.code yX13_laysWorths cX13_laysWorths 6 none] := goodIn_r _ [29] rfl (by decide +kernel)
set_option maxRecDepth 40000 in
theorem ggX13_valueAs_X13_laysWorths_1 : GoodIn wsX13_valueAs wsX13_laysWorths_r1 := goodIn_r _ [30, 31, 2, 3, 32, 4, 33, 34, 35, 36, 12, 37, 14, 38, 39, 40, 41, 42, 43, 44, 45, 46, 47, 48] rfl (by decide +kernel)
set_option maxRecDepth 40000 in
theorem ggX13_valueAs_X13_laysWorths_2 : GoodIn wsX13_valueAs wsX13_laysWorths_r2 := goodIn_r _ [49, 50, 51, 52, 53, 54, 55, 56, 57, 58, 59, 60, 61, 62, 63, 64, 65, 66, 67, 68, 69, 70, 71, 72] rfl (by decide +kernel)
set_option maxRecDepth 40000 in
theorem ggX13_valueAs_X13_laysWorths_3 : GoodIn wsX13_valueAs wsX13_laysWorths_r3 := goodIn_r _ [73, 74, 75, 76, 77, 78, 79, 80, 81, 82, 83, 84, 85, 86, 87, 88, 89, 90, 91, 92, 93, 94, 95, 96] rfl (by decide +kernel)
set_option maxRecDepth 40000 in
theorem ggX13_valueAs_X13_laysWorths_4 : GoodIn wsX13_valueAs wsX13_laysWorths_r4 := goodIn_r _ [97, 98, 99, 100, 101, 102, 103, 104, 105, 106, 107, 108, 109, 110, 111, 112, 113, 114, 115, 116, 117, 118, 119, 120] rfl (by decide +kernel)
set_option maxRecDepth 40000 in
theorem ggX13_valueAs_X13_laysWorths_5 : GoodIn wsX13_valueAs wsX13_laysWorths_r5 := goodIn_r _ [121, 122, 123] rfl (by decide +kernel)
set_option maxRecDepth 40000 in
theorem ggX13_valueAs_X13_laysWorths_6 : GoodIn wsX13_valueAs wsX130 := goodIn_r _ [148, 149, 150, 151, 152, 153, 154, 155, 156, 157, 158, 159, 160, 161, 162, 163, 164, 165, 166, 167, 168, 169, 170, 171, 172, 173, 174, 175, 176, 177, 178, 179, 180, 181, 182, 183, 184, 185, 186, 187, 188, 189, 190, 191, 192] rfl (by decide +kernel)
set_option maxRecDepth 40000 in
theorem ggX13_valueAs_X13_laysWorths : GoodIn wsX13_valueAs wsX13_laysWorths := (goodIn_app ggX13_valueAs_X13_laysWorths_0 (goodIn_app (goodIn_app ggX13_valueAs_X13_laysWorths_1 (goodIn_app ggX13_valueAs_X13_laysWorths_2 (goodIn_app ggX13_valueAs_X13_laysWorths_3 (goodIn_app ggX13_valueAs_X13_laysWorths_4 ggX13_valueAs_X13_laysWorths_5)))) ggX13_valueAs_X13_laysWorths_6))
set_option maxRecDepth 20000 in
theorem ggX13_valueAs_X13_refused : GoodIn wsX13_valueAs wsX13_refused := goodIn_r _ [24, 25] rfl (by decide +kernel)
set_option maxRecDepth 20000 in
theorem gX13_valueAs_Jxe99ae_doubleToLongBits_ccdee : GoodIn wsX13_valueAs (va_wsS RX13 288 yJxe99ae_doubleToLongBits_ccdee wsJxe99ae_doubleToLongBits_ccdee) := goodIn_app (goodIn_of _ (by decide +kernel)) ggX13_valueAs_Jxe99ae_doubleToLongBits_ccdee
set_option maxRecDepth 20000 in
theorem gX13_valueAs_Jxf58ca_floatToIntBits_5c35a : GoodIn wsX13_valueAs (va_wsS RX13 282 yJxf58ca_floatToIntBits_5c35a wsJxf58ca_floatToIntBits_5c35a) := goodIn_app (goodIn_of _ (by decide +kernel)) ggX13_valueAs_Jxf58ca_floatToIntBits_5c35a
set_option maxRecDepth 20000 in
theorem gX13_valueAs_X13_at : GoodIn wsX13_valueAs (va_wsS RX13 239 yX13_at wsX13_at) := goodIn_app (goodIn_of _ (by decide +kernel)) ggX13_valueAs_X13_at
set_option maxRecDepth 20000 in
theorem gX13_valueAs_X13_in : GoodIn wsX13_valueAs (va_wsS RX13 175 yX13_in wsX13_in) := goodIn_app (goodIn_of _ (by decide +kernel)) ggX13_valueAs_X13_in
set_option maxRecDepth 20000 in
theorem gX13_valueAs_X13_isClause : GoodIn wsX13_valueAs (wsV RX13 233 RX13 yX13_isClause wsX13_isClause) := goodIn_app (goodIn_r _ [9, 10, 11, 12] rfl (by decide +kernel)) ggX13_valueAs_X13_isClause
set_option maxRecDepth 20000 in
theorem gX13_valueAs_X13_isSpot : GoodIn wsX13_valueAs (va_wsS RX13 188 yX13_isSpot wsX13_isSpot) := goodIn_app (goodIn_of _ (by decide +kernel)) ggX13_valueAs_X13_isSpot
set_option maxRecDepth 20000 in
theorem gX13_valueAs_X13_laysWorths : GoodIn wsX13_valueAs (wsV RX13 274 RX13 yX13_laysWorths wsX13_laysWorths) := goodIn_app (goodIn_r _ [26, 27, 28, 12] rfl (by decide +kernel)) ggX13_valueAs_X13_laysWorths
set_option maxRecDepth 20000 in
theorem gX13_valueAs_X13_refused : GoodIn wsX13_valueAs (va_wsS RX13 270 yX13_refused wsX13_refused) := goodIn_app (goodIn_of _ (by decide +kernel)) ggX13_valueAs_X13_refused
set_option maxRecDepth 20000 in
theorem in_X13_valueAs_X13 : ∀ w ∈ wsX130, w ∈ wsX13_valueAs := sub_r [148, 149, 150, 151, 152, 153, 154, 155, 156, 157, 158, 159, 160, 161, 162, 163, 164, 165, 166, 167, 168, 169, 170, 171, 172, 173, 174, 175, 176, 177, 178, 179, 180, 181, 182, 183, 184, 185, 186, 187, 188, 189, 190, 191, 192] rfl
set_option maxHeartbeats 4000000 in
set_option maxRecDepth 100000 in
theorem c_X13_valueAs (l : Launch) (D : va_G) (T : Nat → ClassId) (sz : Nat) (h0 : Nat) (q : Nat → Int32) (v : Int64) (w : Int64) (a : Nat → Nat) (f8 : Nat → Int32) (f9 : Nat → Int32) (f10 : Nat → Int32) (f11 : Nat → Int32) (f17 : Nat → Int32) (f18 : Nat → Int32) (f19 : Nat → Int32) (f20 : Nat → Int64) (f21 : Nat → Int64) (f22 : Nat → Int32) (x1 : Int32) (x2 : Int32) (x3 : Int32) (x4 : Int32) (hB : isB (q 14)) (hm : 0 ≤ (q 7).toInt ∧ (q 7).toInt ≤ 24) (hokR : okR f8 f10 f11) (hZ : ∀ j : Nat, isB (f22 j)) (hL : (1 ≤ (q 4).toInt ∧ (q 4).toInt ≤ 9) ∧ 1 ≤ (q 6).toInt ∧ (q 6).toInt ≤ 9) : MetD lw_cs l yX13_valueAs wsX13_valueAs ({ frames := 134, cells := 0, slots := 0, locals := 5283 }) (pW [.ref h0, .int x1, .int x2, .int x3, .int x4] D T [(h0, .inr (10, (Value.int (q 0) :: Value.int (q 1) :: Value.int (q 2) :: Value.int (q 3) :: Value.int (q 4) :: Value.int (q 5) :: Value.int (q 6) :: Value.int (q 7) :: Value.ref (a 8) :: Value.ref (a 9) :: Value.ref (a 10) :: Value.ref (a 11) :: Value.ref (a 12) :: Value.ref (a 13) :: Value.int (q 14) :: Value.long v :: Value.long w :: Value.ref (a 17) :: Value.ref (a 18) :: Value.ref (a 19) :: Value.ref (a 20) :: Value.ref (a 21) :: Value.ref (a 22) :: Value.ref (a 23) :: Value.int (q 24) :: Value.ref (a 25) :: Value.int (q 26) :: Value.ref (a 27) :: Value.int (q 28) :: Value.int (q 29) :: Value.int (q 30) :: Value.int (q 31) :: Value.int (q 32) :: Value.int (q 33) :: Value.ref (a 34) :: Value.ref (a 35) :: Value.ref (a 36) :: Value.ref (a 37) :: Value.ref (a 38) :: Value.ref (a 39) :: Value.ref (a 40) :: Value.int (q 41) :: Value.ref (a 42) :: Value.int (q 43) :: Value.int (q 44) :: []))), ((a 8), .inl (T 0, 24, .inl f8)), ((a 9), .inl (T 0, 24, .inl f9)), ((a 10), .inl (T 0, 24, .inl f10)), ((a 11), .inl (T 0, 24, .inl f11)), ((a 17), .inl (T 0, 24, .inl f17)), ((a 18), .inl (T 0, 24, .inl f18)), ((a 19), .inl (T 0, 24, .inl f19)), ((a 20), .inl (T 1, 672, .inr (.inl f20))), ((a 21), .inl (T 1, 672, .inr (.inl f21))), ((a 22), .inl (T 4, 672, .inl f22))] sz) (va_Ql (fun (r : Int64) (u : (Int32) × (Int64) × (Int64) × (Nat → Int32) × (Nat → Int32) × (Nat → Int32) × (Nat → Int64) × (Nat → Int64) × (Nat → Int32)) => (isB u.1) ∧ (∀ j : Nat, isB (u.2.2.2.2.2.2.2.2 j))) (bW D (va_A [(h0, .inr (10, (Value.int (q 0) :: Value.int (q 1) :: Value.int (q 2) :: Value.int (q 3) :: Value.int (q 4) :: Value.int (q 5) :: Value.int (q 6) :: Value.int (q 7) :: Value.ref (a 8) :: Value.ref (a 9) :: Value.ref (a 10) :: Value.ref (a 11) :: Value.ref (a 12) :: Value.ref (a 13) :: Value.int (q 14) :: Value.long v :: Value.long w :: Value.ref (a 17) :: Value.ref (a 18) :: Value.ref (a 19) :: Value.ref (a 20) :: Value.ref (a 21) :: Value.ref (a 22) :: Value.ref (a 23) :: Value.int (q 24) :: Value.ref (a 25) :: Value.int (q 26) :: Value.ref (a 27) :: Value.int (q 28) :: Value.int (q 29) :: Value.int (q 30) :: Value.int (q 31) :: Value.int (q 32) :: Value.int (q 33) :: Value.ref (a 34) :: Value.ref (a 35) :: Value.ref (a 36) :: Value.ref (a 37) :: Value.ref (a 38) :: Value.ref (a 39) :: Value.ref (a 40) :: Value.int (q 41) :: Value.ref (a 42) :: Value.int (q 43) :: Value.int (q 44) :: []))), ((a 8), .inl (T 0, 24, .inl f8)), ((a 9), .inl (T 0, 24, .inl f9)), ((a 10), .inl (T 0, 24, .inl f10)), ((a 11), .inl (T 0, 24, .inl f11)), ((a 17), .inl (T 0, 24, .inl f17)), ((a 18), .inl (T 0, 24, .inl f18)), ((a 19), .inl (T 0, 24, .inl f19)), ((a 20), .inl (T 1, 672, .inr (.inl f20))), ((a 21), .inl (T 1, 672, .inr (.inl f21))), ((a 22), .inl (T 4, 672, .inl f22))] sz) (fun (u : (Int32) × (Int64) × (Int64) × (Nat → Int32) × (Nat → Int32) × (Nat → Int32) × (Nat → Int64) × (Nat → Int64) × (Nat → Int32)) => [(h0, .inr (10, (Value.int (q 0) :: Value.int (q 1) :: Value.int (q 2) :: Value.int (q 3) :: Value.int (q 4) :: Value.int (q 5) :: Value.int (q 6) :: Value.int (q 7) :: Value.ref (a 8) :: Value.ref (a 9) :: Value.ref (a 10) :: Value.ref (a 11) :: Value.ref (a 12) :: Value.ref (a 13) :: Value.int u.1 :: Value.long u.2.1 :: Value.long u.2.2.1 :: Value.ref (a 17) :: Value.ref (a 18) :: Value.ref (a 19) :: Value.ref (a 20) :: Value.ref (a 21) :: Value.ref (a 22) :: Value.ref (a 23) :: Value.int (q 24) :: Value.ref (a 25) :: Value.int (q 26) :: Value.ref (a 27) :: Value.int (q 28) :: Value.int (q 29) :: Value.int (q 30) :: Value.int (q 31) :: Value.int (q 32) :: Value.int (q 33) :: Value.ref (a 34) :: Value.ref (a 35) :: Value.ref (a 36) :: Value.ref (a 37) :: Value.ref (a 38) :: Value.ref (a 39) :: Value.ref (a 40) :: Value.int (q 41) :: Value.ref (a 42) :: Value.int (q 43) :: Value.int (q 44) :: []))), ((a 8), .inl (T 0, 24, .inl f8)), ((a 9), .inl (T 0, 24, .inl f9)), ((a 10), .inl (T 0, 24, .inl f10)), ((a 11), .inl (T 0, 24, .inl f11)), ((a 17), .inl (T 0, 24, .inl u.2.2.2.1)), ((a 18), .inl (T 0, 24, .inl u.2.2.2.2.1)), ((a 19), .inl (T 0, 24, .inl u.2.2.2.2.2.1)), ((a 20), .inl (T 1, 672, .inr (.inl u.2.2.2.2.2.2.1))), ((a 21), .inl (T 1, 672, .inr (.inl u.2.2.2.2.2.2.2.1))), ((a 22), .inl (T 4, 672, .inl u.2.2.2.2.2.2.2.2))])) (va_A [(h0, .inr (10, (Value.int (q 0) :: Value.int (q 1) :: Value.int (q 2) :: Value.int (q 3) :: Value.int (q 4) :: Value.int (q 5) :: Value.int (q 6) :: Value.int (q 7) :: Value.ref (a 8) :: Value.ref (a 9) :: Value.ref (a 10) :: Value.ref (a 11) :: Value.ref (a 12) :: Value.ref (a 13) :: Value.int (q 14) :: Value.long v :: Value.long w :: Value.ref (a 17) :: Value.ref (a 18) :: Value.ref (a 19) :: Value.ref (a 20) :: Value.ref (a 21) :: Value.ref (a 22) :: Value.ref (a 23) :: Value.int (q 24) :: Value.ref (a 25) :: Value.int (q 26) :: Value.ref (a 27) :: Value.int (q 28) :: Value.int (q 29) :: Value.int (q 30) :: Value.int (q 31) :: Value.int (q 32) :: Value.int (q 33) :: Value.ref (a 34) :: Value.ref (a 35) :: Value.ref (a 36) :: Value.ref (a 37) :: Value.ref (a 38) :: Value.ref (a 39) :: Value.ref (a 40) :: Value.int (q 41) :: Value.ref (a 42) :: Value.int (q 43) :: Value.int (q 44) :: []))), ((a 8), .inl (T 0, 24, .inl f8)), ((a 9), .inl (T 0, 24, .inl f9)), ((a 10), .inl (T 0, 24, .inl f10)), ((a 11), .inl (T 0, 24, .inl f11)), ((a 17), .inl (T 0, 24, .inl f17)), ((a 18), .inl (T 0, 24, .inl f18)), ((a 19), .inl (T 0, 24, .inl f19)), ((a 20), .inl (T 1, 672, .inr (.inl f20))), ((a 21), .inl (T 1, 672, .inr (.inl f21))), ((a 22), .inl (T 4, 672, .inl f22))] sz)) 0 0 (va_A [(h0, .inr (10, (Value.int (q 0) :: Value.int (q 1) :: Value.int (q 2) :: Value.int (q 3) :: Value.int (q 4) :: Value.int (q 5) :: Value.int (q 6) :: Value.int (q 7) :: Value.ref (a 8) :: Value.ref (a 9) :: Value.ref (a 10) :: Value.ref (a 11) :: Value.ref (a 12) :: Value.ref (a 13) :: Value.int (q 14) :: Value.long v :: Value.long w :: Value.ref (a 17) :: Value.ref (a 18) :: Value.ref (a 19) :: Value.ref (a 20) :: Value.ref (a 21) :: Value.ref (a 22) :: Value.ref (a 23) :: Value.int (q 24) :: Value.ref (a 25) :: Value.int (q 26) :: Value.ref (a 27) :: Value.int (q 28) :: Value.int (q 29) :: Value.int (q 30) :: Value.int (q 31) :: Value.int (q 32) :: Value.int (q 33) :: Value.ref (a 34) :: Value.ref (a 35) :: Value.ref (a 36) :: Value.ref (a 37) :: Value.ref (a 38) :: Value.ref (a 39) :: Value.ref (a 40) :: Value.int (q 41) :: Value.ref (a 42) :: Value.int (q 43) :: Value.int (q 44) :: []))), ((a 8), .inl (T 0, 24, .inl f8)), ((a 9), .inl (T 0, 24, .inl f9)), ((a 10), .inl (T 0, 24, .inl f10)), ((a 11), .inl (T 0, 24, .inl f11)), ((a 17), .inl (T 0, 24, .inl f17)), ((a 18), .inl (T 0, 24, .inl f18)), ((a 19), .inl (T 0, 24, .inl f19)), ((a 20), .inl (T 1, 672, .inr (.inl f20))), ((a 21), .inl (T 1, 672, .inr (.inl f21))), ((a 22), .inl (T 4, 672, .inl f22))] sz) := by
  refine MetD.ofW (cc := cX13_valueAs) (maxL := 8) (ret := (some .long)) (by decide +kernel) rfl ?_
  intro p e s m args below meth c s₁ B hml hv hd0
  obtain ⟨rfl, hsz, hP, hE0, hD0⟩ := hv
  have hx := B.exec
  have hb := B.bytes
  have hr := B.returns
  have hts0 := atoms_spec (ws := wsX13_valueAs) B.pre
  have hown0 : s.vm.findClass RX13 = some m.cls := findClass_of_methodNamed B.named
  have hlocks := B.notSynchronized
  subst hsz
  have hD := hD0.self (sz := s.heap.size)
  generalize hAe : va_A [(h0, .inr (10, (Value.int (q 0) :: Value.int (q 1) :: Value.int (q 2) :: Value.int (q 3) :: Value.int (q 4) :: Value.int (q 5) :: Value.int (q 6) :: Value.int (q 7) :: Value.ref (a 8) :: Value.ref (a 9) :: Value.ref (a 10) :: Value.ref (a 11) :: Value.ref (a 12) :: Value.ref (a 13) :: Value.int (q 14) :: Value.long v :: Value.long w :: Value.ref (a 17) :: Value.ref (a 18) :: Value.ref (a 19) :: Value.ref (a 20) :: Value.ref (a 21) :: Value.ref (a 22) :: Value.ref (a 23) :: Value.int (q 24) :: Value.ref (a 25) :: Value.int (q 26) :: Value.ref (a 27) :: Value.int (q 28) :: Value.int (q 29) :: Value.int (q 30) :: Value.int (q 31) :: Value.int (q 32) :: Value.int (q 33) :: Value.ref (a 34) :: Value.ref (a 35) :: Value.ref (a 36) :: Value.ref (a 37) :: Value.ref (a 38) :: Value.ref (a 39) :: Value.ref (a 40) :: Value.int (q 41) :: Value.ref (a 42) :: Value.int (q 43) :: Value.int (q 44) :: []))), ((a 8), .inl (T 0, 24, .inl f8)), ((a 9), .inl (T 0, 24, .inl f9)), ((a 10), .inl (T 0, 24, .inl f10)), ((a 11), .inl (T 0, 24, .inl f11)), ((a 17), .inl (T 0, 24, .inl f17)), ((a 18), .inl (T 0, 24, .inl f18)), ((a 19), .inl (T 0, 24, .inl f19)), ((a 20), .inl (T 1, 672, .inr (.inl f20))), ((a 21), .inl (T 1, 672, .inr (.inl f21))), ((a 22), .inl (T 4, 672, .inl f22))] s.heap.size = A at hD ⊢
  have hA : ∀ q : Nat, s.heap.size ≤ q → A q := fun q h => by rw [← hAe]; exact Or.inr h
  have hS : va_S A s.heap s.heap [] := va_S.rf
  have hP : va_P D vwCl [(h0, .inr (10, (Value.int (q 0) :: Value.int (q 1) :: Value.int (q 2) :: Value.int (q 3) :: Value.int (q 4) :: Value.int (q 5) :: Value.int (q 6) :: Value.int (q 7) :: Value.ref (a 8) :: Value.ref (a 9) :: Value.ref (a 10) :: Value.ref (a 11) :: Value.ref (a 12) :: Value.ref (a 13) :: Value.int (q 14) :: Value.long v :: Value.long w :: Value.ref (a 17) :: Value.ref (a 18) :: Value.ref (a 19) :: Value.ref (a 20) :: Value.ref (a 21) :: Value.ref (a 22) :: Value.ref (a 23) :: Value.int (q 24) :: Value.ref (a 25) :: Value.int (q 26) :: Value.ref (a 27) :: Value.int (q 28) :: Value.int (q 29) :: Value.int (q 30) :: Value.int (q 31) :: Value.int (q 32) :: Value.int (q 33) :: Value.ref (a 34) :: Value.ref (a 35) :: Value.ref (a 36) :: Value.ref (a 37) :: Value.ref (a 38) :: Value.ref (a 39) :: Value.ref (a 40) :: Value.int (q 41) :: Value.ref (a 42) :: Value.int (q 43) :: Value.int (q 44) :: []))), ((a 8), .inl (T 0, 24, .inl f8)), ((a 9), .inl (T 0, 24, .inl f9)), ((a 10), .inl (T 0, 24, .inl f10)), ((a 11), .inl (T 0, 24, .inl f11)), ((a 17), .inl (T 0, 24, .inl f17)), ((a 18), .inl (T 0, 24, .inl f18)), ((a 19), .inl (T 0, 24, .inl f19)), ((a 20), .inl (T 1, 672, .inr (.inl f20))), ((a 21), .inl (T 1, 672, .inr (.inl f21))), ((a 22), .inl (T 4, 672, .inl f22))] s.heap := hP
  have hl := lv_entry ([.ref h0, .int x1, .int x2, .int x3, .int x4]) (n := 8) (Nat.le_of_ble_eq_true rfl)
  rw [lg_entry_eq]
  generalize (lg_sl ([.ref h0, .int x1, .int x2, .int x3, .int x4]) ++ List.replicate (8 - (lg_sl ([.ref h0, .int x1, .int x2, .int x3, .int x4])).length) Slot.unset).toArray = ls at hl ⊢
  have hl : lv_has ls 8 [(0, .ref h0), (1, .int x1), (2, .int x2), (3, .int x3), (4, .int x4)] := hl
  clear hD0
  have hts := dr_words hts0 s.drawn
  have hE : ekK D T (s.setDrawn s.drawn) := ekK.same (u := s) rfl hE0
  have hown : (s.setDrawn s.drawn).vm.findClass RX13 = some m.cls := hown0
  refine lv_aload_n hx hb dX13_valueAs_0 rfl (lv_at hl 0 rfl) ?_
  refine lv_iload_n hx hb dX13_valueAs_1 rfl (lv_at hl 1 rfl) ?_
  refine vp_callSi (W.runV (As := [.int x1]) (rest := []) ⟨hx, hb, hml, hown, hts⟩ (c_X13_isClause l D T h0 [.int (q 0), .int (q 1), .int (q 2), .int (q 3), .int (q 4), .int (q 5), .int (q 6), .int (q 7), .ref (a 8), .ref (a 9), .ref (a 10), .ref (a 11), .ref (a 12), .ref (a 13), .int (q 14), .long v, .long w, .ref (a 17), .ref (a 18), .ref (a 19), .ref (a 20), .ref (a 21), .ref (a 22), .ref (a 23), .int (q 24), .ref (a 25), .int (q 26), .ref (a 27), .int (q 28), .int (q 29), .int (q 30), .int (q 31), .int (q 32), .int (q 33), .ref (a 34), .ref (a 35), .ref (a 36), .ref (a 37), .ref (a 38), .ref (a 39), .ref (a 40), .int (q 41), .ref (a 42), .int (q 43), .int (q 44)] x1 (q 7) rfl (by omega)) (cwV 1 hts gX13_valueAs_X13_isClause rfl rfl rfl hv_X13_isClause ⟨Nat.le_of_ble_eq_true rfl, Nat.le_of_ble_eq_true rfl⟩) (pR_V (q := (RX13, TX13, 45)) (ci := 10) (q0 := 0) hP hE rfl rfl [0] rfl) rfl rfl hl.1 rfl (lv_room (Nat.le_of_ble_eq_true rfl)) dX13_valueAs_2 ⟨Nat.le_of_ble_eq_true rfl, Nat.le_of_ble_eq_true rfl⟩) (fun r_1 hr_1 => ?_)
  rcases bool_post hr_1 with ⟨c_2, rfl⟩ | ⟨c_2, rfl⟩
  · refine lv_if_eq (tgt := 29) hx hb dX13_valueAs_5 (by decide +kernel) (fun c9 => absurd c9 (by decide +kernel)) (fun _ => ?_)
    refine lv_iload_n hx hb dX13_valueAs_8 rfl (lv_at hl 2 rfl) ?_
    refine lv_iload_n hx hb dX13_valueAs_9 rfl (lv_at hl 3 rfl) ?_
    refine vp_callSi (W.runS (As := [.int x2, .int x3]) (rest := []) ⟨hx, hb, hml, hown, hts⟩ (c_X13_isSpot l D T x2 x3) (va_cwS 2 hts gX13_valueAs_X13_isSpot rfl rfl rfl hs_X13_isSpot ⟨Nat.le_of_ble_eq_true rfl, Nat.le_of_ble_eq_true rfl⟩) (pR_S hP hE [] rfl) rfl rfl hl.1 rfl (lv_room (Nat.le_of_ble_eq_true rfl)) dX13_valueAs_10 ⟨Nat.le_of_ble_eq_true rfl, Nat.le_of_ble_eq_true rfl⟩) (fun r_3 hr_3 => ?_)
    rcases bool_post hr_3 with ⟨c_4, rfl⟩ | ⟨c_4, rfl⟩
    · refine lv_if_eq (tgt := 29) hx hb dX13_valueAs_13 (by decide +kernel) (fun c9 => absurd c9 (by decide +kernel)) (fun _ => ?_)
      refine lv_iload hx hb dX13_valueAs_16 (lv_at hl 4 rfl) ?_
      refine lv_i2l hx hb dX13_valueAs_18 rfl ?_
      refine lv_lconst (v := 0) hx hb dX13_valueAs_19 (by decide +kernel) ?_
      refine lv_ldc2 (v := 5) hx hb hown (hts (.constantLong RX13 278 (5)) (List.mem_of_getElem? (i := 1) rfl)) dX13_valueAs_20 ?_
      refine vp_callSi (W.runS (As := [.long (x4.toInt64), .long 0, .long 5]) (rest := []) ⟨hx, hb, hml, hown, hts⟩ (c_X13_in l D T (x4.toInt64) 0 5 x4.toInt 0 5 ((Int32.toInt_toInt64 _).trans rfl) (by decide +kernel) (by decide +kernel)) (va_cwS 3 hts gX13_valueAs_X13_in rfl rfl rfl hs_X13_in ⟨Nat.le_of_ble_eq_true rfl, Nat.le_of_ble_eq_true rfl⟩) (pR_S hP hE [] rfl) rfl rfl hl.1 rfl (lv_room (Nat.le_of_ble_eq_true rfl)) dX13_valueAs_23 ⟨Nat.le_of_ble_eq_true rfl, Nat.le_of_ble_eq_true rfl⟩) (fun r_5 hr_5 => ?_)
      rcases bool_post hr_5 with ⟨c_6, rfl⟩ | ⟨c_6, rfl⟩
      · refine lv_if_ne (tgt := 35) hx hb dX13_valueAs_26 (by decide +kernel) (fun _ => ?_) (fun c9 => absurd c9 (by decide +kernel))
        refine lv_aload_n hx hb dX13_valueAs_35 rfl (lv_at hl 0 rfl) ?_
        refine lv_iload_n hx hb dX13_valueAs_36 rfl (lv_at hl 1 rfl) ?_
        have hFc := va_free (wc := [(h0, .inr (10, (Value.int (q 0) :: Value.int (q 1) :: Value.int (q 2) :: Value.int (q 3) :: Value.int (q 4) :: Value.int (q 5) :: Value.int (q 6) :: Value.int (q 7) :: Value.ref (a 8) :: Value.ref (a 9) :: Value.ref (a 10) :: Value.ref (a 11) :: Value.ref (a 12) :: Value.ref (a 13) :: Value.int (q 14) :: Value.long v :: Value.long w :: Value.ref (a 17) :: Value.ref (a 18) :: Value.ref (a 19) :: Value.ref (a 20) :: Value.ref (a 21) :: Value.ref (a 22) :: Value.ref (a 23) :: Value.int (q 24) :: Value.ref (a 25) :: Value.int (q 26) :: Value.ref (a 27) :: Value.int (q 28) :: Value.int (q 29) :: Value.int (q 30) :: Value.int (q 31) :: Value.int (q 32) :: Value.int (q 33) :: Value.ref (a 34) :: Value.ref (a 35) :: Value.ref (a 36) :: Value.ref (a 37) :: Value.ref (a 38) :: Value.ref (a 39) :: Value.ref (a 40) :: Value.int (q 41) :: Value.ref (a 42) :: Value.int (q 43) :: Value.int (q 44) :: []))), ((a 8), .inl (T 0, 24, .inl f8)), ((a 9), .inl (T 0, 24, .inl f9)), ((a 10), .inl (T 0, 24, .inl f10)), ((a 11), .inl (T 0, 24, .inl f11)), ((a 17), .inl (T 0, 24, .inl f17)), ((a 18), .inl (T 0, 24, .inl f18)), ((a 19), .inl (T 0, 24, .inl f19)), ((a 20), .inl (T 1, 672, .inr (.inl f20))), ((a 21), .inl (T 1, 672, .inr (.inl f21))), ((a 22), .inl (T 4, 672, .inl f22))]) hD hS hA [0, 1, 2, 3, 4, 5, 6, 7, 8, 9, 10] rfl
        refine va_callv (va_runV (As := [.int x1]) (rest := []) ⟨hx, hb, hml, hown, hts⟩ (c_X13_laysWorths l D T _ h0 q v w a f8 f9 f10 f11 f17 f18 f19 f20 f21 f22 x1 (show 0 ≤ (q 7).toInt ∧ (q 7).toInt ≤ 24 from (by omega)) (show okR f8 f10 f11 from hokR) (show ∀ j : Nat, isB (f22 j) from hZ) (show (1 ≤ (q 4).toInt ∧ (q 4).toInt ≤ 9) ∧ 1 ≤ (q 6).toInt ∧ (q 6).toInt ≤ 9 from (by omega)) (show -1 ≤ x1.toInt ∧ x1.toInt < (q 7).toInt from (by omega))) (cwV 1 hts gX13_valueAs_X13_laysWorths rfl rfl rfl hv_X13_laysWorths ⟨Nat.le_of_ble_eq_true rfl, Nat.le_of_ble_eq_true rfl⟩) (pW_V (q := (RX13, TX13, 45)) (ci := 10) (q0 := 0) hP hE hD rfl rfl [0, 1, 2, 3, 4, 5, 6, 7, 8, 9, 10] (by decide +kernel) rfl rfl) rfl rfl hl.1 rfl (lv_room (Nat.le_of_ble_eq_true rfl)) dX13_valueAs_37 ⟨Nat.le_of_ble_eq_true rfl, Nat.le_of_ble_eq_true rfl⟩) hS (fun q _ h => hFc q h) hFc (fun u_8 t H1 locs ht hvm hr_7 hB hz1 hk1 hS => ?_)
        obtain ⟨l_9, l_10, f_11, f_12, f_13, f_14, f_15, f_16⟩ := u_8
        obtain ⟨hi0_r_7, hi1_r_7, hi2_r_7, hi3_r_7, hi4_r_7⟩ := hr_7
        have hZ : ∀ j : Nat, isB (f_16 j) := hi0_r_7
        have hEE : okE f8 f10 f_11 (q 7).toInt := hi1_r_7
        have hW1 : ∀ j : Nat, (j : Int) < 28 * (x1.toInt + 1) → 1 ≤ (f_15 j).toInt := hi2_r_7
        have hTV : ∀ y t s : Int32, spK t s → 0 ≤ y.toInt → y.toInt ≤ x1.toInt → tabW f_14 f_15 f_16 y t s = VALW (lqW (q 0) (q 1) (q 2) (q 3) (q 4) (q 5) (q 6)) f8 f9 f10 f11 f_11 y t s := hi3_r_7
        have hMEr : ∀ j : Nat, (j : Int) < (q 7).toInt → mesP f8 f9 f10 f11 f_11 f_12 f_13 j := hi4_r_7
        obtain ⟨hP1, hD1⟩ := hB
        rw [ht] at hP1
        obtain ⟨hP, hD⟩ := va_repl [(h0, .inr (10, (Value.int (q 0) :: Value.int (q 1) :: Value.int (q 2) :: Value.int (q 3) :: Value.int (q 4) :: Value.int (q 5) :: Value.int (q 6) :: Value.int (q 7) :: Value.ref (a 8) :: Value.ref (a 9) :: Value.ref (a 10) :: Value.ref (a 11) :: Value.ref (a 12) :: Value.ref (a 13) :: Value.int 0 :: Value.long l_9 :: Value.long l_10 :: Value.ref (a 17) :: Value.ref (a 18) :: Value.ref (a 19) :: Value.ref (a 20) :: Value.ref (a 21) :: Value.ref (a 22) :: Value.ref (a 23) :: Value.int (q 24) :: Value.ref (a 25) :: Value.int (q 26) :: Value.ref (a 27) :: Value.int (q 28) :: Value.int (q 29) :: Value.int (q 30) :: Value.int (q 31) :: Value.int (q 32) :: Value.int (q 33) :: Value.ref (a 34) :: Value.ref (a 35) :: Value.ref (a 36) :: Value.ref (a 37) :: Value.ref (a 38) :: Value.ref (a 39) :: Value.ref (a 40) :: Value.int (q 41) :: Value.ref (a 42) :: Value.int (q 43) :: Value.int (q 44) :: []))), ((a 8), .inl (T 0, 24, .inl f8)), ((a 9), .inl (T 0, 24, .inl f9)), ((a 10), .inl (T 0, 24, .inl f10)), ((a 11), .inl (T 0, 24, .inl f11)), ((a 17), .inl (T 0, 24, .inl f_11)), ((a 18), .inl (T 0, 24, .inl f_12)), ((a 19), .inl (T 0, 24, .inl f_13)), ((a 20), .inl (T 1, 672, .inr (.inl f_14))), ((a 21), .inl (T 1, 672, .inr (.inl f_15))), ((a 22), .inl (T 4, 672, .inl f_16))] hP hD [0, 1, 2, 3, 4, 5, 6, 7, 8, 9, 10] [0, 1, 2, 3, 4, 5, 6, 7, 8, 9, 10] rfl (by decide +kernel) rfl rfl rfl hk1 hP1
        clear hP1 hD1 hFc
        generalize H1 = H at hP hS ⊢
        refine lv_iload_n hx hb dX13_valueAs_40 rfl (lv_at hl 1 rfl) ?_
        refine lv_iload_n hx hb dX13_valueAs_41 rfl (lv_at hl 2 rfl) ?_
        refine lv_iload_n hx hb dX13_valueAs_42 rfl (lv_at hl 3 rfl) ?_
        refine vp_callSi (W.runS (As := [.int x1, .int x2, .int x3]) (rest := []) ⟨hx, hb, hml, hown, hts⟩ (c_X13_at l D T x1 x2 x3 (by (try simp only [ti_0]); omega) (by (try simp only [ti_0]); omega) (by (try simp only [ti_0]); omega)) (va_cwS 3 hts gX13_valueAs_X13_at rfl rfl rfl hs_X13_at ⟨Nat.le_of_ble_eq_true rfl, Nat.le_of_ble_eq_true rfl⟩) (pR_S hP hE [] rfl) rfl rfl hl.1 rfl (lv_room (Nat.le_of_ble_eq_true rfl)) dX13_valueAs_43 ⟨Nat.le_of_ble_eq_true rfl, Nat.le_of_ble_eq_true rfl⟩) (fun r_17 hr_17 => ?_)
        refine lv_istore (lv' := [(5, .int r_17), (0, .ref h0), (1, .int x1), (2, .int x2), (3, .int x3), (4, .int x4)]) hx hb dX13_valueAs_46 hl (by decide +kernel) rfl (fun ls hl => ?_)
        refine lv_aload_n hx hb dX13_valueAs_48 rfl (lv_at hl 1 rfl) ?_
        refine va_get (D := D) (ci := 10) (v := .ref (a 22)) (C := RX13) (T := TX13) (N := 45) hx hb hts in_X13_valueAs_X13 hown hE.1 hP 0 rfl rfl 22 (by decide +kernel) (hts (.fieldLink RX13 63 "ClauseBookModel" "worthMuch" "[Z") (List.mem_of_getElem? (i := 2) rfl)) (fun _ h9 => h9) rfl dX13_valueAs_49 ?_
        refine lv_iload hx hb dX13_valueAs_52 (lv_at hl 0 rfl) ?_
        refine va_zald hx hb hE.1 hP 10 4 rfl rfl (by rw [vp_in_iff]; first | omega | (subst_vars; omega)) dX13_valueAs_54 ?_
        refine lv_topi (fun z_18 ez_18 => ?_)
        refine lv_if_eq (tgt := 64) hx hb dX13_valueAs_55 (by decide +kernel) (fun c_19 => ?_) (fun c_19 => ?_)
        · rw [fa_eq] at c_19
          try rw [ti_0] at c_19
          refine lv_aload_n hx hb dX13_valueAs_64 rfl (lv_at hl 1 rfl) ?_
          refine va_get (D := D) (ci := 10) (v := .ref (a 20)) (C := RX13) (T := TX13) (N := 45) hx hb hts in_X13_valueAs_X13 hown hE.1 hP 0 rfl rfl 20 (by decide +kernel) (hts (.fieldLink RX13 56 "ClauseBookModel" "worthAbove" "[J") (List.mem_of_getElem? (i := 3) rfl)) (fun _ h9 => h9) rfl dX13_valueAs_65 ?_
          refine lv_iload hx hb dX13_valueAs_68 (lv_at hl 0 rfl) ?_
          refine va_lald hx hb hE.1 hP 8 1 rfl rfl (by rw [vp_in_iff]; first | omega | (subst_vars; omega)) dX13_valueAs_70 ?_
          refine lv_topl (fun z_20 ez_20 => ?_)
          refine lv_l2d hx hb dX13_valueAs_71 ?_
          refine lv_aload_n hx hb dX13_valueAs_72 rfl (lv_at hl 1 rfl) ?_
          refine va_get (D := D) (ci := 10) (v := .ref (a 21)) (C := RX13) (T := TX13) (N := 45) hx hb hts in_X13_valueAs_X13 hown hE.1 hP 0 rfl rfl 21 (by decide +kernel) (hts (.fieldLink RX13 60 "ClauseBookModel" "worthBelow" "[J") (List.mem_of_getElem? (i := 4) rfl)) (fun _ h9 => h9) rfl dX13_valueAs_73 ?_
          refine lv_iload hx hb dX13_valueAs_76 (lv_at hl 0 rfl) ?_
          refine va_lald hx hb hE.1 hP 9 1 rfl rfl (by rw [vp_in_iff]; first | omega | (subst_vars; omega)) dX13_valueAs_78 ?_
          refine lv_topl (fun z_21 ez_21 => ?_)
          refine lv_l2d hx hb dX13_valueAs_79 ?_
          refine lv_ddiv_any hd0 lw_bits hx hb dX13_valueAs_80 (fun r_22 d_23 _ hd_23 => ?_)
          have hts := dr_words hts0 d_23
          have hE : ekK D T (s.setDrawn d_23) := ekK.same (u := s) rfl hE0
          have hown : (s.setDrawn d_23).vm.findClass RX13 = some m.cls := hown0
          refine lv_dstore (lv' := [(6, .double r_22), (5, .int r_17), (0, .ref h0), (1, .int x1), (2, .int x2), (3, .int x3), (4, .int x4)]) hx hb dX13_valueAs_81 hl (by decide +kernel) rfl (fun ls hl => ?_)
          refine lv_iload hx hb dX13_valueAs_83 (lv_at hl 6 rfl) ?_
          by_cases k_24 : x4 = 0
          · subst k_24
            refine lv_tableIn (off := 35) (tgt := 120) hx hb dX13_valueAs_85 (by decide +kernel) (by decide +kernel) (by decide +kernel) (by decide +kernel) ?_
            refine lv_dload hx hb dX13_valueAs_120 (lv_at hl 0 rfl) ?_
            refine lv_ldc2d (v := 4636737291354636288) hx hb hown (hts (.constantDouble RX13 280 (4636737291354636288)) (List.mem_of_getElem? (i := 5) rfl)) dX13_valueAs_122 ?_
            refine lv_dmul_any hd_23 lw_bits hx hb dX13_valueAs_125 (fun r_25 d_26 _ hd_26 => ?_)
            have hts := dr_words hts0 d_26
            have hE : ekK D T (s.setDrawn d_26) := ekK.same (u := s) rfl hE0
            have hown : (s.setDrawn d_26).vm.findClass RX13 = some m.cls := hown0
            refine lv_d2l hx hb dX13_valueAs_126 ?_
            refine lv_topl (fun z_27 ez_27 => ?_)
            refine W.endD hd_26 ?_
            exact W.lret hx hb hr (fun t ht hW => ⟨⟨_, (0, l_9, l_10, f_11, f_12, f_13, f_14, f_15, f_16), rfl, ⟨(show isB 0 from isB0), (show ∀ j : Nat, isB (f_16 j) from hZ)⟩, by rw [ht]; exact hP.sub [0, 1, 2, 3, 4, 5, 6, 7, 8, 9, 10] rfl, hD.sub [0, 1, 2, 3, 4, 5, 6, 7, 8, 9, 10] (by decide +kernel) rfl⟩, hS.F ht⟩) hS.2.2 dX13_valueAs_127
          by_cases k_28 : x4 = 1
          · subst k_28
            refine lv_tableIn (off := 43) (tgt := 128) hx hb dX13_valueAs_85 (by decide +kernel) (by decide +kernel) (by decide +kernel) (by decide +kernel) ?_
            refine lv_dload hx hb dX13_valueAs_128 (lv_at hl 0 rfl) ?_
            refine lv_d2f_any hd_23 lw_bits hx hb dX13_valueAs_130 (fun r_29 d_30 _ hd_30 => ?_)
            have hts := dr_words hts0 d_30
            have hE : ekK D T (s.setDrawn d_30) := ekK.same (u := s) rfl hE0
            have hown : (s.setDrawn d_30).vm.findClass RX13 = some m.cls := hown0
            refine vp_callSi (W.runS (As := [.float r_29]) (rest := []) ⟨hx, hb, hml, hown, hts⟩ (c_Jxf58ca_floatToIntBits_5c35a l D T r_29) (va_cwS 1 hts gX13_valueAs_Jxf58ca_floatToIntBits_5c35a rfl rfl rfl hs_Jxf58ca_floatToIntBits_5c35a ⟨Nat.le_of_ble_eq_true rfl, Nat.le_of_ble_eq_true rfl⟩) (pR_S hP hE [] rfl) rfl rfl hl.1 rfl (lv_room (Nat.le_of_ble_eq_true rfl)) dX13_valueAs_131 ⟨Nat.le_of_ble_eq_true rfl, Nat.le_of_ble_eq_true rfl⟩) (fun r_31 hr_31 => ?_)
            refine lv_i2l hx hb dX13_valueAs_134 rfl ?_
            refine W.endD hd_30 ?_
            exact W.lret hx hb hr (fun t ht hW => ⟨⟨_, (0, l_9, l_10, f_11, f_12, f_13, f_14, f_15, f_16), rfl, ⟨(show isB 0 from isB0), (show ∀ j : Nat, isB (f_16 j) from hZ)⟩, by rw [ht]; exact hP.sub [0, 1, 2, 3, 4, 5, 6, 7, 8, 9, 10] rfl, hD.sub [0, 1, 2, 3, 4, 5, 6, 7, 8, 9, 10] (by decide +kernel) rfl⟩, hS.F ht⟩) hS.2.2 dX13_valueAs_135
          by_cases k_32 : x4 = 2
          · subst k_32
            refine lv_tableIn (off := 51) (tgt := 136) hx hb dX13_valueAs_85 (by decide +kernel) (by decide +kernel) (by decide +kernel) (by decide +kernel) ?_
            refine lv_dload hx hb dX13_valueAs_136 (lv_at hl 0 rfl) ?_
            refine vp_callSl (W.runS (As := [.double r_22]) (rest := []) ⟨hx, hb, hml, hown, hts⟩ (c_Jxe99ae_doubleToLongBits_ccdee l D T r_22) (va_cwS 1 hts gX13_valueAs_Jxe99ae_doubleToLongBits_ccdee rfl rfl rfl hs_Jxe99ae_doubleToLongBits_ccdee ⟨Nat.le_of_ble_eq_true rfl, Nat.le_of_ble_eq_true rfl⟩) (pR_S hP hE [] rfl) rfl rfl hl.1 rfl (lv_room (Nat.le_of_ble_eq_true rfl)) dX13_valueAs_138 ⟨Nat.le_of_ble_eq_true rfl, Nat.le_of_ble_eq_true rfl⟩) (fun r_33 hr_33 => ?_)
            refine W.endD hd_23 ?_
            exact W.lret hx hb hr (fun t ht hW => ⟨⟨_, (0, l_9, l_10, f_11, f_12, f_13, f_14, f_15, f_16), rfl, ⟨(show isB 0 from isB0), (show ∀ j : Nat, isB (f_16 j) from hZ)⟩, by rw [ht]; exact hP.sub [0, 1, 2, 3, 4, 5, 6, 7, 8, 9, 10] rfl, hD.sub [0, 1, 2, 3, 4, 5, 6, 7, 8, 9, 10] (by decide +kernel) rfl⟩, hS.F ht⟩) hS.2.2 dX13_valueAs_141
          by_cases k_34 : x4 = 3
          · subst k_34
            refine lv_tableIn (off := 57) (tgt := 142) hx hb dX13_valueAs_85 (by decide +kernel) (by decide +kernel) (by decide +kernel) (by decide +kernel) ?_
            refine lv_dload hx hb dX13_valueAs_142 (lv_at hl 0 rfl) ?_
            refine lv_dconst1 hx hb dX13_valueAs_144 ?_
            refine lv_drem_any hd_23 lw_bits hx hb dX13_valueAs_145 (fun r_35 d_36 _ hd_36 => ?_)
            have hts := dr_words hts0 d_36
            have hE : ekK D T (s.setDrawn d_36) := ekK.same (u := s) rfl hE0
            have hown : (s.setDrawn d_36).vm.findClass RX13 = some m.cls := hown0
            refine lv_ldc2d (v := 4652007308841189376) hx hb hown (hts (.constantDouble RX13 294 (4652007308841189376)) (List.mem_of_getElem? (i := 6) rfl)) dX13_valueAs_146 ?_
            refine lv_dmul_any hd_36 lw_bits hx hb dX13_valueAs_149 (fun r_37 d_38 _ hd_38 => ?_)
            have hts := dr_words hts0 d_38
            have hE : ekK D T (s.setDrawn d_38) := ekK.same (u := s) rfl hE0
            have hown : (s.setDrawn d_38).vm.findClass RX13 = some m.cls := hown0
            refine lv_d2i hx hb dX13_valueAs_150 ?_
            refine lv_topi (fun z_39 ez_39 => ?_)
            refine lv_i2l hx hb dX13_valueAs_151 rfl ?_
            refine W.endD hd_38 ?_
            exact W.lret hx hb hr (fun t ht hW => ⟨⟨_, (0, l_9, l_10, f_11, f_12, f_13, f_14, f_15, f_16), rfl, ⟨(show isB 0 from isB0), (show ∀ j : Nat, isB (f_16 j) from hZ)⟩, by rw [ht]; exact hP.sub [0, 1, 2, 3, 4, 5, 6, 7, 8, 9, 10] rfl, hD.sub [0, 1, 2, 3, 4, 5, 6, 7, 8, 9, 10] (by decide +kernel) rfl⟩, hS.F ht⟩) hS.2.2 dX13_valueAs_152
          by_cases k_40 : x4 = 4
          · subst k_40
            refine lv_tableIn (off := 68) (tgt := 153) hx hb dX13_valueAs_85 (by decide +kernel) (by decide +kernel) (by decide +kernel) (by decide +kernel) ?_
            refine lv_dload hx hb dX13_valueAs_153 (lv_at hl 0 rfl) ?_
            refine lv_ldc2d (v := 4600427019358961664) hx hb hown (hts (.constantDouble RX13 296 (4600427019358961664)) (List.mem_of_getElem? (i := 7) rfl)) dX13_valueAs_155 ?_
            refine lv_drem_any hd_23 lw_bits hx hb dX13_valueAs_158 (fun r_41 d_42 _ hd_42 => ?_)
            have hts := dr_words hts0 d_42
            have hE : ekK D T (s.setDrawn d_42) := ekK.same (u := s) rfl hE0
            have hown : (s.setDrawn d_42).vm.findClass RX13 = some m.cls := hown0
            refine vp_callSl (W.runS (As := [.double r_41]) (rest := []) ⟨hx, hb, hml, hown, hts⟩ (c_Jxe99ae_doubleToLongBits_ccdee l D T r_41) (va_cwS 1 hts gX13_valueAs_Jxe99ae_doubleToLongBits_ccdee rfl rfl rfl hs_Jxe99ae_doubleToLongBits_ccdee ⟨Nat.le_of_ble_eq_true rfl, Nat.le_of_ble_eq_true rfl⟩) (pR_S hP hE [] rfl) rfl rfl hl.1 rfl (lv_room (Nat.le_of_ble_eq_true rfl)) dX13_valueAs_159 ⟨Nat.le_of_ble_eq_true rfl, Nat.le_of_ble_eq_true rfl⟩) (fun r_43 hr_43 => ?_)
            refine W.endD hd_42 ?_
            exact W.lret hx hb hr (fun t ht hW => ⟨⟨_, (0, l_9, l_10, f_11, f_12, f_13, f_14, f_15, f_16), rfl, ⟨(show isB 0 from isB0), (show ∀ j : Nat, isB (f_16 j) from hZ)⟩, by rw [ht]; exact hP.sub [0, 1, 2, 3, 4, 5, 6, 7, 8, 9, 10] rfl, hD.sub [0, 1, 2, 3, 4, 5, 6, 7, 8, 9, 10] (by decide +kernel) rfl⟩, hS.F ht⟩) hS.2.2 dX13_valueAs_162
          rw [fa_eq] at k_24 k_28 k_32 k_34 k_40
          try simp only [ti_0, ti_1, ti_2, ti_3, ti_4] at k_24 k_28 k_32 k_34 k_40
          refine lv_tableOut (tgt := 163) hx hb dX13_valueAs_85 (by omega) (by decide +kernel) ?_
          refine lv_dload hx hb dX13_valueAs_163 (lv_at hl 0 rfl) ?_
          refine lv_d2f_any hd_23 lw_bits hx hb dX13_valueAs_165 (fun r_44 d_45 _ hd_45 => ?_)
          have hts := dr_words hts0 d_45
          have hE : ekK D T (s.setDrawn d_45) := ekK.same (u := s) rfl hE0
          have hown : (s.setDrawn d_45).vm.findClass RX13 = some m.cls := hown0
          refine lv_ldcwf (v := 1061158912) hx hb hown (hts (.constantFloat RX13 298 (1061158912)) (List.mem_of_getElem? (i := 8) rfl)) dX13_valueAs_166 ?_
          refine lv_frem_any hd_45 lw_bits hx hb dX13_valueAs_169 (fun r_46 d_47 _ hd_47 => ?_)
          have hts := dr_words hts0 d_47
          have hE : ekK D T (s.setDrawn d_47) := ekK.same (u := s) rfl hE0
          have hown : (s.setDrawn d_47).vm.findClass RX13 = some m.cls := hown0
          refine vp_callSi (W.runS (As := [.float r_46]) (rest := []) ⟨hx, hb, hml, hown, hts⟩ (c_Jxf58ca_floatToIntBits_5c35a l D T r_46) (va_cwS 1 hts gX13_valueAs_Jxf58ca_floatToIntBits_5c35a rfl rfl rfl hs_Jxf58ca_floatToIntBits_5c35a ⟨Nat.le_of_ble_eq_true rfl, Nat.le_of_ble_eq_true rfl⟩) (pR_S hP hE [] rfl) rfl rfl hl.1 rfl (lv_room (Nat.le_of_ble_eq_true rfl)) dX13_valueAs_170 ⟨Nat.le_of_ble_eq_true rfl, Nat.le_of_ble_eq_true rfl⟩) (fun r_48 hr_48 => ?_)
          refine lv_i2l hx hb dX13_valueAs_173 rfl ?_
          refine W.endD hd_47 ?_
          exact W.lret hx hb hr (fun t ht hW => ⟨⟨_, (0, l_9, l_10, f_11, f_12, f_13, f_14, f_15, f_16), rfl, ⟨(show isB 0 from isB0), (show ∀ j : Nat, isB (f_16 j) from hZ)⟩, by rw [ht]; exact hP.sub [0, 1, 2, 3, 4, 5, 6, 7, 8, 9, 10] rfl, hD.sub [0, 1, 2, 3, 4, 5, 6, 7, 8, 9, 10] (by decide +kernel) rfl⟩, hS.F ht⟩) hS.2.2 dX13_valueAs_174
        · rw [fa_eq] at c_19
          try rw [ti_0] at c_19
          refine lv_bipush (v := (-5)) hx hb dX13_valueAs_58 (by decide +kernel) ?_
          refine vp_callSl (W.runS (As := [.int (-5)]) (rest := []) ⟨hx, hb, hml, hown, hts⟩ (c_X13_refused l D T (-5) (by decide +kernel)) (va_cwS 1 hts gX13_valueAs_X13_refused rfl rfl rfl hs_X13_refused ⟨Nat.le_of_ble_eq_true rfl, Nat.le_of_ble_eq_true rfl⟩) (pR_S hP hE [] rfl) rfl rfl hl.1 rfl (lv_room (Nat.le_of_ble_eq_true rfl)) dX13_valueAs_60 ⟨Nat.le_of_ble_eq_true rfl, Nat.le_of_ble_eq_true rfl⟩) (fun r_49 hr_49 => ?_)
          refine W.endD hd0 ?_
          exact W.lret hx hb hr (fun t ht hW => ⟨⟨_, (0, l_9, l_10, f_11, f_12, f_13, f_14, f_15, f_16), rfl, ⟨(show isB 0 from isB0), (show ∀ j : Nat, isB (f_16 j) from hZ)⟩, by rw [ht]; exact hP.sub [0, 1, 2, 3, 4, 5, 6, 7, 8, 9, 10] rfl, hD.sub [0, 1, 2, 3, 4, 5, 6, 7, 8, 9, 10] (by decide +kernel) rfl⟩, hS.F ht⟩) hS.2.2 dX13_valueAs_63
      · refine lv_if_ne (tgt := 35) hx hb dX13_valueAs_26 (by decide +kernel) (fun c9 => absurd c9 (by decide +kernel)) (fun _ => ?_)
        refine lv_bipush (v := (-2)) hx hb dX13_valueAs_29 (by decide +kernel) ?_
        refine vp_callSl (W.runS (As := [.int (-2)]) (rest := []) ⟨hx, hb, hml, hown, hts⟩ (c_X13_refused l D T (-2) (by decide +kernel)) (va_cwS 1 hts gX13_valueAs_X13_refused rfl rfl rfl hs_X13_refused ⟨Nat.le_of_ble_eq_true rfl, Nat.le_of_ble_eq_true rfl⟩) (pR_S hP hE [] rfl) rfl rfl hl.1 rfl (lv_room (Nat.le_of_ble_eq_true rfl)) dX13_valueAs_31 ⟨Nat.le_of_ble_eq_true rfl, Nat.le_of_ble_eq_true rfl⟩) (fun r_50 hr_50 => ?_)
        refine W.endD hd0 ?_
        exact W.lret hx hb hr (fun t ht hW => ⟨⟨_, ((q 14), v, w, f17, f18, f19, f20, f21, f22), rfl, ⟨(show isB (q 14) from hB), (show ∀ j : Nat, isB (f22 j) from hZ)⟩, by rw [ht]; exact hP.sub [0, 1, 2, 3, 4, 5, 6, 7, 8, 9, 10] rfl, hD.sub [0, 1, 2, 3, 4, 5, 6, 7, 8, 9, 10] (by decide +kernel) rfl⟩, hS.F ht⟩) hS.2.2 dX13_valueAs_34
    · refine lv_if_eq (tgt := 29) hx hb dX13_valueAs_13 (by decide +kernel) (fun _ => ?_) (fun c9 => absurd c9 (by decide +kernel))
      refine lv_bipush (v := (-2)) hx hb dX13_valueAs_29 (by decide +kernel) ?_
      refine vp_callSl (W.runS (As := [.int (-2)]) (rest := []) ⟨hx, hb, hml, hown, hts⟩ (c_X13_refused l D T (-2) (by decide +kernel)) (va_cwS 1 hts gX13_valueAs_X13_refused rfl rfl rfl hs_X13_refused ⟨Nat.le_of_ble_eq_true rfl, Nat.le_of_ble_eq_true rfl⟩) (pR_S hP hE [] rfl) rfl rfl hl.1 rfl (lv_room (Nat.le_of_ble_eq_true rfl)) dX13_valueAs_31 ⟨Nat.le_of_ble_eq_true rfl, Nat.le_of_ble_eq_true rfl⟩) (fun r_51 hr_51 => ?_)
      refine W.endD hd0 ?_
      exact W.lret hx hb hr (fun t ht hW => ⟨⟨_, ((q 14), v, w, f17, f18, f19, f20, f21, f22), rfl, ⟨(show isB (q 14) from hB), (show ∀ j : Nat, isB (f22 j) from hZ)⟩, by rw [ht]; exact hP.sub [0, 1, 2, 3, 4, 5, 6, 7, 8, 9, 10] rfl, hD.sub [0, 1, 2, 3, 4, 5, 6, 7, 8, 9, 10] (by decide +kernel) rfl⟩, hS.F ht⟩) hS.2.2 dX13_valueAs_34
  · refine lv_if_eq (tgt := 29) hx hb dX13_valueAs_5 (by decide +kernel) (fun _ => ?_) (fun c9 => absurd c9 (by decide +kernel))
    refine lv_bipush (v := (-2)) hx hb dX13_valueAs_29 (by decide +kernel) ?_
    refine vp_callSl (W.runS (As := [.int (-2)]) (rest := []) ⟨hx, hb, hml, hown, hts⟩ (c_X13_refused l D T (-2) (by decide +kernel)) (va_cwS 1 hts gX13_valueAs_X13_refused rfl rfl rfl hs_X13_refused ⟨Nat.le_of_ble_eq_true rfl, Nat.le_of_ble_eq_true rfl⟩) (pR_S hP hE [] rfl) rfl rfl hl.1 rfl (lv_room (Nat.le_of_ble_eq_true rfl)) dX13_valueAs_31 ⟨Nat.le_of_ble_eq_true rfl, Nat.le_of_ble_eq_true rfl⟩) (fun r_52 hr_52 => ?_)
    refine W.endD hd0 ?_
    exact W.lret hx hb hr (fun t ht hW => ⟨⟨_, ((q 14), v, w, f17, f18, f19, f20, f21, f22), rfl, ⟨(show isB (q 14) from hB), (show ∀ j : Nat, isB (f22 j) from hZ)⟩, by rw [ht]; exact hP.sub [0, 1, 2, 3, 4, 5, 6, 7, 8, 9, 10] rfl, hD.sub [0, 1, 2, 3, 4, 5, 6, 7, 8, 9, 10] (by decide +kernel) rfl⟩, hS.F ht⟩) hS.2.2 dX13_valueAs_34
theorem dX13_dues_0 : decode cX13_dues 0 = .ok (.aload_n 0, 1) := by decide +kernel
theorem dX13_dues_1 : decode cX13_dues 1 = .ok (.iload_n 1, 1) := by decide +kernel
theorem dX13_dues_10 : decode cX13_dues 10 = .ok (.iload 4, 2) := by decide +kernel
theorem dX13_dues_12 : decode cX13_dues 12 = .ok (.invokestatic 332, 3) := by decide +kernel
theorem dX13_dues_15 : decode cX13_dues 15 = .ok (.ifCond .ne 6, 3) := by decide +kernel
theorem dX13_dues_18 : decode cX13_dues 18 = .ok (.bipush (-2), 2) := by decide +kernel
theorem dX13_dues_2 : decode cX13_dues 2 = .ok (.iload_n 2, 1) := by decide +kernel
theorem dX13_dues_20 : decode cX13_dues 20 = .ok (.ireturn, 1) := by decide +kernel
theorem dX13_dues_21 : decode cX13_dues 21 = .ok (.aload_n 0, 1) := by decide +kernel
theorem dX13_dues_22 : decode cX13_dues 22 = .ok (.getfield 104, 3) := by decide +kernel
theorem dX13_dues_25 : decode cX13_dues 25 = .ok (.iload 4, 2) := by decide +kernel
theorem dX13_dues_27 : decode cX13_dues 27 = .ok (.iaload, 1) := by decide +kernel
theorem dX13_dues_28 : decode cX13_dues 28 = .ok (.ifCond .ge 6, 3) := by decide +kernel
theorem dX13_dues_3 : decode cX13_dues 3 = .ok (.iload_n 3, 1) := by decide +kernel
theorem dX13_dues_31 : decode cX13_dues 31 = .ok (.bipush (-11), 2) := by decide +kernel
theorem dX13_dues_33 : decode cX13_dues 33 = .ok (.ireturn, 1) := by decide +kernel
theorem dX13_dues_34 : decode cX13_dues 34 = .ok (.aload_n 0, 1) := by decide +kernel
theorem dX13_dues_35 : decode cX13_dues 35 = .ok (.iload_n 1, 1) := by decide +kernel
theorem dX13_dues_36 : decode cX13_dues 36 = .ok (.iload_n 2, 1) := by decide +kernel
theorem dX13_dues_37 : decode cX13_dues 37 = .ok (.iload_n 3, 1) := by decide +kernel
theorem dX13_dues_38 : decode cX13_dues 38 = .ok (.invokevirtual 329, 3) := by decide +kernel
theorem dX13_dues_4 : decode cX13_dues 4 = .ok (.invokevirtual 326, 3) := by decide +kernel
theorem dX13_dues_41 : decode cX13_dues 41 = .ok (.ifCond .ne 6, 3) := by decide +kernel
theorem dX13_dues_44 : decode cX13_dues 44 = .ok (.bipush (-5), 2) := by decide +kernel
theorem dX13_dues_46 : decode cX13_dues 46 = .ok (.ireturn, 1) := by decide +kernel
theorem dX13_dues_47 : decode cX13_dues 47 = .ok (.iconst 0, 1) := by decide +kernel
theorem dX13_dues_48 : decode cX13_dues 48 = .ok (.istore 5, 2) := by decide +kernel
theorem dX13_dues_50 : decode cX13_dues 50 = .ok (.iload 5, 2) := by decide +kernel
theorem dX13_dues_52 : decode cX13_dues 52 = .ok (.bipush 6, 2) := by decide +kernel
theorem dX13_dues_54 : decode cX13_dues 54 = .ok (.if_icmp .gt 34, 3) := by decide +kernel
theorem dX13_dues_57 : decode cX13_dues 57 = .ok (.aload_n 0, 1) := by decide +kernel
theorem dX13_dues_58 : decode cX13_dues 58 = .ok (.iload 4, 2) := by decide +kernel
theorem dX13_dues_60 : decode cX13_dues 60 = .ok (.iload 5, 2) := by decide +kernel
theorem dX13_dues_62 : decode cX13_dues 62 = .ok (.aload_n 0, 1) := by decide +kernel
theorem dX13_dues_63 : decode cX13_dues 63 = .ok (.getfield 67, 3) := by decide +kernel
theorem dX13_dues_66 : decode cX13_dues 66 = .ok (.iload 5, 2) := by decide +kernel
theorem dX13_dues_68 : decode cX13_dues 68 = .ok (.laload, 1) := by decide +kernel
theorem dX13_dues_69 : decode cX13_dues 69 = .ok (.invokevirtual 335, 3) := by decide +kernel
theorem dX13_dues_7 : decode cX13_dues 7 = .ok (.ifCond .eq 11, 3) := by decide +kernel
theorem dX13_dues_72 : decode cX13_dues 72 = .ok (.istore 6, 2) := by decide +kernel
theorem dX13_dues_74 : decode cX13_dues 74 = .ok (.iload 6, 2) := by decide +kernel
theorem dX13_dues_76 : decode cX13_dues 76 = .ok (.ifCond .ge 6, 3) := by decide +kernel
theorem dX13_dues_79 : decode cX13_dues 79 = .ok (.iload 6, 2) := by decide +kernel
theorem dX13_dues_81 : decode cX13_dues 81 = .ok (.ireturn, 1) := by decide +kernel
theorem dX13_dues_82 : decode cX13_dues 82 = .ok (.iinc 5 1, 3) := by decide +kernel
theorem dX13_dues_85 : decode cX13_dues 85 = .ok (.goto (-35), 3) := by decide +kernel
theorem dX13_dues_88 : decode cX13_dues 88 = .ok (.bipush 7, 2) := by decide +kernel
theorem dX13_dues_90 : decode cX13_dues 90 = .ok (.ireturn, 1) := by decide +kernel
set_option maxRecDepth 40000 in
theorem ggX13_dues_X13_cell_0 : GoodIn wsX13_dues [.code yX13_cell cX13_cell 6 (some .int)] := goodIn_r _ [165] rfl (by decide +kernel)
set_option maxRecDepth 40000 in
theorem ggX13_dues_X13_cell_1 : GoodIn wsX13_dues [.fieldLink RX13 104 "ClauseBookModel" "sorts" "[I", .fieldLink RX13 110 "ClauseBookModel" "whole" "[J", .fieldLink RX13 113 "ClauseBookModel" "host" "[D", .methodLink RX13 410 yX13_wrong, .instanceMethod yX13_wrong, .selects RX13 yX13_wrong yX13_wrong, .initialized RX13, .code yX13_wrong cX13_wrong 3 (some .int), .fieldLink RX13 107 "ClauseBookModel" "sizes" "[I", .methodLink RX13 332 yX13_isSheet, .static yX13_isSheet, .code yX13_isSheet cX13_isSheet 1 (some .boolean), .constantLong RX13 408 (3), .methodLink RX13 175 yX13_in, .static yX13_in, .code yX13_in cX13_in 6 (some .boolean)] := goodIn_r _ [1, 166, 167, 168, 169, 170, 6, 171, 172, 21, 22, 23, 24, 14, 15, 16] rfl (by decide +kernel)
set_option maxRecDepth 40000 in
theorem ggX13_dues_X13_cell_2 : GoodIn wsX13_dues wsX130 := goodIn_r _ [173, 174, 175, 176, 177, 178, 179, 180, 181, 182, 183, 184, 185, 186, 187, 188, 189, 190, 191, 192, 193, 194, 195, 196, 197, 198, 199, 200, 201, 202, 203, 204, 205, 206, 207, 208, 209, 210, 211, 212, 213, 214, 215, 216, 217] rfl (by decide +kernel)
set_option maxRecDepth 40000 in
theorem ggX13_dues_X13_cell : GoodIn wsX13_dues wsX13_cell := (goodIn_app ggX13_dues_X13_cell_0 (goodIn_app ggX13_dues_X13_cell_1 ggX13_dues_X13_cell_2))
set_option maxRecDepth 20000 in
theorem ggX13_dues_X13_isHad : GoodIn wsX13_dues wsX13_isHad := goodIn_r _ [7, 8, 9, 10, 11, 6, 12, 13, 14, 15, 16, 17, 18, 19, 20, 173, 174, 175, 176, 177, 178, 179, 180, 181, 182, 183, 184, 185, 186, 187, 188, 189, 190, 191, 192, 193, 194, 195, 196, 197, 198, 199, 200, 201, 202, 203, 204, 205, 206, 207, 208, 209, 210, 211, 212, 213, 214, 215, 216, 217] rfl (by decide +kernel)
set_option maxRecDepth 20000 in
theorem ggX13_dues_X13_isSheet : GoodIn wsX13_dues wsX13_isSheet := goodIn_r _ [23, 24, 14, 15, 6, 16] rfl (by decide +kernel)
set_option maxRecDepth 40000 in
theorem ggX13_dues_X13_laysDues_0 : GoodIn wsX13_dues [.code yX13_laysDues cX13_laysDues 5 (some .boolean)] := goodIn_r _ [28] rfl (by decide +kernel)
set_option maxRecDepth 40000 in
theorem ggX13_dues_X13_laysDues_1 : GoodIn wsX13_dues wsX13_laysDues_r1 := goodIn_r _ [29, 2, 30, 31, 32, 33, 34, 6, 35, 36, 37, 38, 39, 40, 41, 42, 43, 44, 45, 13, 46, 47, 48, 49] rfl (by decide +kernel)
set_option maxRecDepth 40000 in
theorem ggX13_dues_X13_laysDues_2 : GoodIn wsX13_dues wsX13_laysDues_r2 := goodIn_r _ [50, 51, 52, 53, 54, 55, 56, 57, 58, 59, 60, 61, 62, 63, 64, 65, 66, 67, 68, 69, 70, 71, 72, 73] rfl (by decide +kernel)
set_option maxRecDepth 40000 in
theorem ggX13_dues_X13_laysDues_3 : GoodIn wsX13_dues wsX13_laysDues_r3 := goodIn_r _ [74, 75, 76, 77, 78, 79, 80, 81, 82, 83, 84, 85, 86, 87, 88, 89, 90, 91, 92, 93, 94, 95, 96, 97] rfl (by decide +kernel)
set_option maxRecDepth 40000 in
theorem ggX13_dues_X13_laysDues_4 : GoodIn wsX13_dues wsX13_laysDues_r4 := goodIn_r _ [98, 99, 100, 101, 102, 103, 104, 105, 106, 107, 108, 109, 110, 111, 112, 113, 114, 115, 116, 117, 118, 119, 120, 121] rfl (by decide +kernel)
set_option maxRecDepth 40000 in
theorem ggX13_dues_X13_laysDues_5 : GoodIn wsX13_dues wsX13_laysDues_r5 := goodIn_r _ [122, 123, 124, 125, 126, 127, 128, 129, 130, 131, 132, 133, 134, 135, 136, 137, 138, 139, 140, 141, 142, 143, 144, 145] rfl (by decide +kernel)
set_option maxRecDepth 40000 in
theorem ggX13_dues_X13_laysDues_6 : GoodIn wsX13_dues wsX13_laysDues_r6 := goodIn_r _ [146, 147, 148, 149, 150, 151, 152, 153, 154, 155, 156, 157, 158, 159, 160, 161] rfl (by decide +kernel)
set_option maxRecDepth 40000 in
theorem ggX13_dues_X13_laysDues_7 : GoodIn wsX13_dues wsX130 := goodIn_r _ [173, 174, 175, 176, 177, 178, 179, 180, 181, 182, 183, 184, 185, 186, 187, 188, 189, 190, 191, 192, 193, 194, 195, 196, 197, 198, 199, 200, 201, 202, 203, 204, 205, 206, 207, 208, 209, 210, 211, 212, 213, 214, 215, 216, 217] rfl (by decide +kernel)
set_option maxRecDepth 40000 in
theorem ggX13_dues_X13_laysDues : GoodIn wsX13_dues wsX13_laysDues := (goodIn_app ggX13_dues_X13_laysDues_0 (goodIn_app (goodIn_app ggX13_dues_X13_laysDues_1 (goodIn_app ggX13_dues_X13_laysDues_2 (goodIn_app ggX13_dues_X13_laysDues_3 (goodIn_app ggX13_dues_X13_laysDues_4 (goodIn_app ggX13_dues_X13_laysDues_5 ggX13_dues_X13_laysDues_6))))) ggX13_dues_X13_laysDues_7))
set_option maxRecDepth 20000 in
theorem gX13_dues_X13_cell : GoodIn wsX13_dues (wsV RX13 335 RX13 yX13_cell wsX13_cell) := goodIn_app (goodIn_r _ [162, 163, 164, 6] rfl (by decide +kernel)) ggX13_dues_X13_cell
set_option maxRecDepth 20000 in
theorem gX13_dues_X13_isHad : GoodIn wsX13_dues (wsV RX13 326 RX13 yX13_isHad wsX13_isHad) := goodIn_app (goodIn_r _ [3, 4, 5, 6] rfl (by decide +kernel)) ggX13_dues_X13_isHad
set_option maxRecDepth 20000 in
theorem gX13_dues_X13_isSheet : GoodIn wsX13_dues (va_wsS RX13 332 yX13_isSheet wsX13_isSheet) := goodIn_app (goodIn_of _ (by decide +kernel)) ggX13_dues_X13_isSheet
set_option maxRecDepth 20000 in
theorem gX13_dues_X13_laysDues : GoodIn wsX13_dues (wsV RX13 329 RX13 yX13_laysDues wsX13_laysDues) := goodIn_app (goodIn_r _ [25, 26, 27, 6] rfl (by decide +kernel)) ggX13_dues_X13_laysDues
theorem hv_X13_cell : yX13_cell.cls = RX13 ∧ yX13_cell.cls ≠ "java/lang/invoke/MethodHandle" ∧ yX13_cell.cls ≠ "java/lang/invoke/VarHandle" ∧ (parseMethodDescriptor yX13_cell.desc).map (fun d => d.parameters.length) = some 3 := by decide +kernel
set_option maxRecDepth 20000 in
theorem in_X13_dues_X13 : ∀ w ∈ wsX130, w ∈ wsX13_dues := sub_r [173, 174, 175, 176, 177, 178, 179, 180, 181, 182, 183, 184, 185, 186, 187, 188, 189, 190, 191, 192, 193, 194, 195, 196, 197, 198, 199, 200, 201, 202, 203, 204, 205, 206, 207, 208, 209, 210, 211, 212, 213, 214, 215, 216, 217] rfl
set_option maxHeartbeats 4000000 in
set_option maxRecDepth 100000 in
theorem c_X13_dues (l : Launch) (D : va_G) (T : Nat → ClassId) (sz : Nat) (h0 : Nat) (q : Nat → Int32) (v : Int64) (w : Int64) (a : Nat → Nat) (f8 : Nat → Int32) (f9 : Nat → Int32) (f10 : Nat → Int32) (f11 : Nat → Int32) (f17 : Nat → Int32) (f18 : Nat → Int32) (f19 : Nat → Int32) (f20 : Nat → Int64) (f21 : Nat → Int64) (f22 : Nat → Int32) (f23 : Nat → Int64) (f34 : Nat → Int32) (f35 : Nat → Int32) (f36 : Nat → Int64) (f37 : Nat → UInt64) (x1 : Int32) (x2 : Int32) (x3 : Int32) (x4 : Int32) (hB : isB (q 14)) (hm : 0 ≤ (q 7).toInt ∧ (q 7).toInt ≤ 24) (hokR : okR f8 f10 f11) (hZ : ∀ j : Nat, isB (f22 j)) (hL : (1 ≤ (q 4).toInt ∧ (q 4).toInt ≤ 9) ∧ 1 ≤ (q 6).toInt ∧ (q 6).toInt ≤ 9) (hsz : ∀ k : Nat, k < 4 → 0 ≤ (f35 k).toInt ∧ (f35 k).toInt ≤ 30) : MetD lw_cs l yX13_dues wsX13_dues ({ frames := 183, cells := 0, slots := 0, locals := 6884 }) (pW [.ref h0, .int x1, .int x2, .int x3, .int x4] D T [(h0, .inr (10, (Value.int (q 0) :: Value.int (q 1) :: Value.int (q 2) :: Value.int (q 3) :: Value.int (q 4) :: Value.int (q 5) :: Value.int (q 6) :: Value.int (q 7) :: Value.ref (a 8) :: Value.ref (a 9) :: Value.ref (a 10) :: Value.ref (a 11) :: Value.ref (a 12) :: Value.ref (a 13) :: Value.int (q 14) :: Value.long v :: Value.long w :: Value.ref (a 17) :: Value.ref (a 18) :: Value.ref (a 19) :: Value.ref (a 20) :: Value.ref (a 21) :: Value.ref (a 22) :: Value.ref (a 23) :: Value.int (q 24) :: Value.ref (a 25) :: Value.int (q 26) :: Value.ref (a 27) :: Value.int (q 28) :: Value.int (q 29) :: Value.int (q 30) :: Value.int (q 31) :: Value.int (q 32) :: Value.int (q 33) :: Value.ref (a 34) :: Value.ref (a 35) :: Value.ref (a 36) :: Value.ref (a 37) :: Value.ref (a 38) :: Value.ref (a 39) :: Value.ref (a 40) :: Value.int (q 41) :: Value.ref (a 42) :: Value.int (q 43) :: Value.int (q 44) :: []))), ((a 8), .inl (T 0, 24, .inl f8)), ((a 9), .inl (T 0, 24, .inl f9)), ((a 10), .inl (T 0, 24, .inl f10)), ((a 11), .inl (T 0, 24, .inl f11)), ((a 17), .inl (T 0, 24, .inl f17)), ((a 18), .inl (T 0, 24, .inl f18)), ((a 19), .inl (T 0, 24, .inl f19)), ((a 20), .inl (T 1, 672, .inr (.inl f20))), ((a 21), .inl (T 1, 672, .inr (.inl f21))), ((a 22), .inl (T 4, 672, .inl f22)), ((a 23), .inl (T 1, 7, .inr (.inl f23))), ((a 34), .inl (T 0, 4, .inl f34)), ((a 35), .inl (T 0, 4, .inl f35)), ((a 36), .inl (T 1, 120, .inr (.inl f36))), ((a 37), .inl (T 3, 120, .inr (.inr (.inr (.inl f37)))))] sz) (va_Qi (fun (r : Int32) (u : (Int32) × (Int32) × (Int64) × (Int64) × (Nat → Int32) × (Nat → Int32) × (Nat → Int32) × (Nat → Int64) × (Nat → Int64) × (Nat → Int32) × (Nat → Int64) × (Nat → Int64) × (Nat → UInt64)) => (isB u.1) ∧ (∀ j : Nat, isB (u.2.2.2.2.2.2.2.2.2.1 j))) (bW D (va_A [(h0, .inr (10, (Value.int (q 0) :: Value.int (q 1) :: Value.int (q 2) :: Value.int (q 3) :: Value.int (q 4) :: Value.int (q 5) :: Value.int (q 6) :: Value.int (q 7) :: Value.ref (a 8) :: Value.ref (a 9) :: Value.ref (a 10) :: Value.ref (a 11) :: Value.ref (a 12) :: Value.ref (a 13) :: Value.int (q 14) :: Value.long v :: Value.long w :: Value.ref (a 17) :: Value.ref (a 18) :: Value.ref (a 19) :: Value.ref (a 20) :: Value.ref (a 21) :: Value.ref (a 22) :: Value.ref (a 23) :: Value.int (q 24) :: Value.ref (a 25) :: Value.int (q 26) :: Value.ref (a 27) :: Value.int (q 28) :: Value.int (q 29) :: Value.int (q 30) :: Value.int (q 31) :: Value.int (q 32) :: Value.int (q 33) :: Value.ref (a 34) :: Value.ref (a 35) :: Value.ref (a 36) :: Value.ref (a 37) :: Value.ref (a 38) :: Value.ref (a 39) :: Value.ref (a 40) :: Value.int (q 41) :: Value.ref (a 42) :: Value.int (q 43) :: Value.int (q 44) :: []))), ((a 8), .inl (T 0, 24, .inl f8)), ((a 9), .inl (T 0, 24, .inl f9)), ((a 10), .inl (T 0, 24, .inl f10)), ((a 11), .inl (T 0, 24, .inl f11)), ((a 17), .inl (T 0, 24, .inl f17)), ((a 18), .inl (T 0, 24, .inl f18)), ((a 19), .inl (T 0, 24, .inl f19)), ((a 20), .inl (T 1, 672, .inr (.inl f20))), ((a 21), .inl (T 1, 672, .inr (.inl f21))), ((a 22), .inl (T 4, 672, .inl f22)), ((a 23), .inl (T 1, 7, .inr (.inl f23))), ((a 34), .inl (T 0, 4, .inl f34)), ((a 35), .inl (T 0, 4, .inl f35)), ((a 36), .inl (T 1, 120, .inr (.inl f36))), ((a 37), .inl (T 3, 120, .inr (.inr (.inr (.inl f37)))))] sz) (fun (u : (Int32) × (Int32) × (Int64) × (Int64) × (Nat → Int32) × (Nat → Int32) × (Nat → Int32) × (Nat → Int64) × (Nat → Int64) × (Nat → Int32) × (Nat → Int64) × (Nat → Int64) × (Nat → UInt64)) => [(h0, .inr (10, (Value.int (q 0) :: Value.int (q 1) :: Value.int (q 2) :: Value.int (q 3) :: Value.int (q 4) :: Value.int (q 5) :: Value.int (q 6) :: Value.int (q 7) :: Value.ref (a 8) :: Value.ref (a 9) :: Value.ref (a 10) :: Value.ref (a 11) :: Value.ref (a 12) :: Value.ref (a 13) :: Value.int u.1 :: Value.long u.2.2.1 :: Value.long u.2.2.2.1 :: Value.ref (a 17) :: Value.ref (a 18) :: Value.ref (a 19) :: Value.ref (a 20) :: Value.ref (a 21) :: Value.ref (a 22) :: Value.ref (a 23) :: Value.int u.2.1 :: Value.ref (a 25) :: Value.int (q 26) :: Value.ref (a 27) :: Value.int (q 28) :: Value.int (q 29) :: Value.int (q 30) :: Value.int (q 31) :: Value.int (q 32) :: Value.int (q 33) :: Value.ref (a 34) :: Value.ref (a 35) :: Value.ref (a 36) :: Value.ref (a 37) :: Value.ref (a 38) :: Value.ref (a 39) :: Value.ref (a 40) :: Value.int (q 41) :: Value.ref (a 42) :: Value.int (q 43) :: Value.int (q 44) :: []))), ((a 8), .inl (T 0, 24, .inl f8)), ((a 9), .inl (T 0, 24, .inl f9)), ((a 10), .inl (T 0, 24, .inl f10)), ((a 11), .inl (T 0, 24, .inl f11)), ((a 17), .inl (T 0, 24, .inl u.2.2.2.2.1)), ((a 18), .inl (T 0, 24, .inl u.2.2.2.2.2.1)), ((a 19), .inl (T 0, 24, .inl u.2.2.2.2.2.2.1)), ((a 20), .inl (T 1, 672, .inr (.inl u.2.2.2.2.2.2.2.1))), ((a 21), .inl (T 1, 672, .inr (.inl u.2.2.2.2.2.2.2.2.1))), ((a 22), .inl (T 4, 672, .inl u.2.2.2.2.2.2.2.2.2.1)), ((a 23), .inl (T 1, 7, .inr (.inl u.2.2.2.2.2.2.2.2.2.2.1))), ((a 34), .inl (T 0, 4, .inl f34)), ((a 35), .inl (T 0, 4, .inl f35)), ((a 36), .inl (T 1, 120, .inr (.inl u.2.2.2.2.2.2.2.2.2.2.2.1))), ((a 37), .inl (T 3, 120, .inr (.inr (.inr (.inl u.2.2.2.2.2.2.2.2.2.2.2.2)))))])) (va_A [(h0, .inr (10, (Value.int (q 0) :: Value.int (q 1) :: Value.int (q 2) :: Value.int (q 3) :: Value.int (q 4) :: Value.int (q 5) :: Value.int (q 6) :: Value.int (q 7) :: Value.ref (a 8) :: Value.ref (a 9) :: Value.ref (a 10) :: Value.ref (a 11) :: Value.ref (a 12) :: Value.ref (a 13) :: Value.int (q 14) :: Value.long v :: Value.long w :: Value.ref (a 17) :: Value.ref (a 18) :: Value.ref (a 19) :: Value.ref (a 20) :: Value.ref (a 21) :: Value.ref (a 22) :: Value.ref (a 23) :: Value.int (q 24) :: Value.ref (a 25) :: Value.int (q 26) :: Value.ref (a 27) :: Value.int (q 28) :: Value.int (q 29) :: Value.int (q 30) :: Value.int (q 31) :: Value.int (q 32) :: Value.int (q 33) :: Value.ref (a 34) :: Value.ref (a 35) :: Value.ref (a 36) :: Value.ref (a 37) :: Value.ref (a 38) :: Value.ref (a 39) :: Value.ref (a 40) :: Value.int (q 41) :: Value.ref (a 42) :: Value.int (q 43) :: Value.int (q 44) :: []))), ((a 8), .inl (T 0, 24, .inl f8)), ((a 9), .inl (T 0, 24, .inl f9)), ((a 10), .inl (T 0, 24, .inl f10)), ((a 11), .inl (T 0, 24, .inl f11)), ((a 17), .inl (T 0, 24, .inl f17)), ((a 18), .inl (T 0, 24, .inl f18)), ((a 19), .inl (T 0, 24, .inl f19)), ((a 20), .inl (T 1, 672, .inr (.inl f20))), ((a 21), .inl (T 1, 672, .inr (.inl f21))), ((a 22), .inl (T 4, 672, .inl f22)), ((a 23), .inl (T 1, 7, .inr (.inl f23))), ((a 34), .inl (T 0, 4, .inl f34)), ((a 35), .inl (T 0, 4, .inl f35)), ((a 36), .inl (T 1, 120, .inr (.inl f36))), ((a 37), .inl (T 3, 120, .inr (.inr (.inr (.inl f37)))))] sz)) 0 0 (va_A [(h0, .inr (10, (Value.int (q 0) :: Value.int (q 1) :: Value.int (q 2) :: Value.int (q 3) :: Value.int (q 4) :: Value.int (q 5) :: Value.int (q 6) :: Value.int (q 7) :: Value.ref (a 8) :: Value.ref (a 9) :: Value.ref (a 10) :: Value.ref (a 11) :: Value.ref (a 12) :: Value.ref (a 13) :: Value.int (q 14) :: Value.long v :: Value.long w :: Value.ref (a 17) :: Value.ref (a 18) :: Value.ref (a 19) :: Value.ref (a 20) :: Value.ref (a 21) :: Value.ref (a 22) :: Value.ref (a 23) :: Value.int (q 24) :: Value.ref (a 25) :: Value.int (q 26) :: Value.ref (a 27) :: Value.int (q 28) :: Value.int (q 29) :: Value.int (q 30) :: Value.int (q 31) :: Value.int (q 32) :: Value.int (q 33) :: Value.ref (a 34) :: Value.ref (a 35) :: Value.ref (a 36) :: Value.ref (a 37) :: Value.ref (a 38) :: Value.ref (a 39) :: Value.ref (a 40) :: Value.int (q 41) :: Value.ref (a 42) :: Value.int (q 43) :: Value.int (q 44) :: []))), ((a 8), .inl (T 0, 24, .inl f8)), ((a 9), .inl (T 0, 24, .inl f9)), ((a 10), .inl (T 0, 24, .inl f10)), ((a 11), .inl (T 0, 24, .inl f11)), ((a 17), .inl (T 0, 24, .inl f17)), ((a 18), .inl (T 0, 24, .inl f18)), ((a 19), .inl (T 0, 24, .inl f19)), ((a 20), .inl (T 1, 672, .inr (.inl f20))), ((a 21), .inl (T 1, 672, .inr (.inl f21))), ((a 22), .inl (T 4, 672, .inl f22)), ((a 23), .inl (T 1, 7, .inr (.inl f23))), ((a 34), .inl (T 0, 4, .inl f34)), ((a 35), .inl (T 0, 4, .inl f35)), ((a 36), .inl (T 1, 120, .inr (.inl f36))), ((a 37), .inl (T 3, 120, .inr (.inr (.inr (.inl f37)))))] sz) := by
  refine MetD.ofW (cc := cX13_dues) (maxL := 7) (ret := (some .int)) (by decide +kernel) rfl ?_
  intro p e s m args below meth c s₁ B hml hv hd0
  obtain ⟨rfl, hsz, hP, hE0, hD0⟩ := hv
  have hx := B.exec
  have hb := B.bytes
  have hr := B.returns
  have hts0 := atoms_spec (ws := wsX13_dues) B.pre
  have hown0 : s.vm.findClass RX13 = some m.cls := findClass_of_methodNamed B.named
  have hlocks := B.notSynchronized
  subst hsz
  have hD := hD0.self (sz := s.heap.size)
  generalize hAe : va_A [(h0, .inr (10, (Value.int (q 0) :: Value.int (q 1) :: Value.int (q 2) :: Value.int (q 3) :: Value.int (q 4) :: Value.int (q 5) :: Value.int (q 6) :: Value.int (q 7) :: Value.ref (a 8) :: Value.ref (a 9) :: Value.ref (a 10) :: Value.ref (a 11) :: Value.ref (a 12) :: Value.ref (a 13) :: Value.int (q 14) :: Value.long v :: Value.long w :: Value.ref (a 17) :: Value.ref (a 18) :: Value.ref (a 19) :: Value.ref (a 20) :: Value.ref (a 21) :: Value.ref (a 22) :: Value.ref (a 23) :: Value.int (q 24) :: Value.ref (a 25) :: Value.int (q 26) :: Value.ref (a 27) :: Value.int (q 28) :: Value.int (q 29) :: Value.int (q 30) :: Value.int (q 31) :: Value.int (q 32) :: Value.int (q 33) :: Value.ref (a 34) :: Value.ref (a 35) :: Value.ref (a 36) :: Value.ref (a 37) :: Value.ref (a 38) :: Value.ref (a 39) :: Value.ref (a 40) :: Value.int (q 41) :: Value.ref (a 42) :: Value.int (q 43) :: Value.int (q 44) :: []))), ((a 8), .inl (T 0, 24, .inl f8)), ((a 9), .inl (T 0, 24, .inl f9)), ((a 10), .inl (T 0, 24, .inl f10)), ((a 11), .inl (T 0, 24, .inl f11)), ((a 17), .inl (T 0, 24, .inl f17)), ((a 18), .inl (T 0, 24, .inl f18)), ((a 19), .inl (T 0, 24, .inl f19)), ((a 20), .inl (T 1, 672, .inr (.inl f20))), ((a 21), .inl (T 1, 672, .inr (.inl f21))), ((a 22), .inl (T 4, 672, .inl f22)), ((a 23), .inl (T 1, 7, .inr (.inl f23))), ((a 34), .inl (T 0, 4, .inl f34)), ((a 35), .inl (T 0, 4, .inl f35)), ((a 36), .inl (T 1, 120, .inr (.inl f36))), ((a 37), .inl (T 3, 120, .inr (.inr (.inr (.inl f37)))))] s.heap.size = A at hD ⊢
  have hA : ∀ q : Nat, s.heap.size ≤ q → A q := fun q h => by rw [← hAe]; exact Or.inr h
  have hS : va_S A s.heap s.heap [] := va_S.rf
  have hP : va_P D vwCl [(h0, .inr (10, (Value.int (q 0) :: Value.int (q 1) :: Value.int (q 2) :: Value.int (q 3) :: Value.int (q 4) :: Value.int (q 5) :: Value.int (q 6) :: Value.int (q 7) :: Value.ref (a 8) :: Value.ref (a 9) :: Value.ref (a 10) :: Value.ref (a 11) :: Value.ref (a 12) :: Value.ref (a 13) :: Value.int (q 14) :: Value.long v :: Value.long w :: Value.ref (a 17) :: Value.ref (a 18) :: Value.ref (a 19) :: Value.ref (a 20) :: Value.ref (a 21) :: Value.ref (a 22) :: Value.ref (a 23) :: Value.int (q 24) :: Value.ref (a 25) :: Value.int (q 26) :: Value.ref (a 27) :: Value.int (q 28) :: Value.int (q 29) :: Value.int (q 30) :: Value.int (q 31) :: Value.int (q 32) :: Value.int (q 33) :: Value.ref (a 34) :: Value.ref (a 35) :: Value.ref (a 36) :: Value.ref (a 37) :: Value.ref (a 38) :: Value.ref (a 39) :: Value.ref (a 40) :: Value.int (q 41) :: Value.ref (a 42) :: Value.int (q 43) :: Value.int (q 44) :: []))), ((a 8), .inl (T 0, 24, .inl f8)), ((a 9), .inl (T 0, 24, .inl f9)), ((a 10), .inl (T 0, 24, .inl f10)), ((a 11), .inl (T 0, 24, .inl f11)), ((a 17), .inl (T 0, 24, .inl f17)), ((a 18), .inl (T 0, 24, .inl f18)), ((a 19), .inl (T 0, 24, .inl f19)), ((a 20), .inl (T 1, 672, .inr (.inl f20))), ((a 21), .inl (T 1, 672, .inr (.inl f21))), ((a 22), .inl (T 4, 672, .inl f22)), ((a 23), .inl (T 1, 7, .inr (.inl f23))), ((a 34), .inl (T 0, 4, .inl f34)), ((a 35), .inl (T 0, 4, .inl f35)), ((a 36), .inl (T 1, 120, .inr (.inl f36))), ((a 37), .inl (T 3, 120, .inr (.inr (.inr (.inl f37)))))] s.heap := hP
  have hl := lv_entry ([.ref h0, .int x1, .int x2, .int x3, .int x4]) (n := 7) (Nat.le_of_ble_eq_true rfl)
  rw [lg_entry_eq]
  generalize (lg_sl ([.ref h0, .int x1, .int x2, .int x3, .int x4]) ++ List.replicate (7 - (lg_sl ([.ref h0, .int x1, .int x2, .int x3, .int x4])).length) Slot.unset).toArray = ls at hl ⊢
  have hl : lv_has ls 7 [(0, .ref h0), (1, .int x1), (2, .int x2), (3, .int x3), (4, .int x4)] := hl
  clear hD0
  have hts := dr_words hts0 s.drawn
  have hE : ekK D T (s.setDrawn s.drawn) := ekK.same (u := s) rfl hE0
  have hown : (s.setDrawn s.drawn).vm.findClass RX13 = some m.cls := hown0
  refine lv_aload_n hx hb dX13_dues_0 rfl (lv_at hl 0 rfl) ?_
  refine lv_iload_n hx hb dX13_dues_1 rfl (lv_at hl 1 rfl) ?_
  refine lv_iload_n hx hb dX13_dues_2 rfl (lv_at hl 2 rfl) ?_
  refine lv_iload_n hx hb dX13_dues_3 rfl (lv_at hl 3 rfl) ?_
  refine vp_callSi (W.runV (As := [.int x1, .int x2, .int x3]) (rest := []) ⟨hx, hb, hml, hown, hts⟩ (c_X13_isHad l D T h0 [.int (q 0), .int (q 1), .int (q 2), .int (q 3), .int (q 4), .int (q 5), .int (q 6), .int (q 7), .ref (a 8), .ref (a 9), .ref (a 10), .ref (a 11), .ref (a 12), .ref (a 13), .int (q 14), .long v, .long w, .ref (a 17), .ref (a 18), .ref (a 19), .ref (a 20), .ref (a 21), .ref (a 22), .ref (a 23), .int (q 24), .ref (a 25), .int (q 26), .ref (a 27), .int (q 28), .int (q 29), .int (q 30), .int (q 31), .int (q 32), .int (q 33), .ref (a 34), .ref (a 35), .ref (a 36), .ref (a 37), .ref (a 38), .ref (a 39), .ref (a 40), .int (q 41), .ref (a 42), .int (q 43), .int (q 44)] x1 x2 x3 (q 7) rfl (by omega)) (cwV 3 hts gX13_dues_X13_isHad rfl rfl rfl hv_X13_isHad ⟨Nat.le_of_ble_eq_true rfl, Nat.le_of_ble_eq_true rfl⟩) (pR_V (q := (RX13, TX13, 45)) (ci := 10) (q0 := 0) hP hE rfl rfl [0] rfl) rfl rfl hl.1 rfl (lv_room (Nat.le_of_ble_eq_true rfl)) dX13_dues_4 ⟨Nat.le_of_ble_eq_true rfl, Nat.le_of_ble_eq_true rfl⟩) (fun r_1 hr_1 => ?_)
  rcases bool_post hr_1 with ⟨c_2, rfl⟩ | ⟨c_2, rfl⟩
  · refine lv_if_eq (tgt := 18) hx hb dX13_dues_7 (by decide +kernel) (fun c9 => absurd c9 (by decide +kernel)) (fun _ => ?_)
    refine lv_iload hx hb dX13_dues_10 (lv_at hl 4 rfl) ?_
    refine vp_callSi (W.runS (As := [.int x4]) (rest := []) ⟨hx, hb, hml, hown, hts⟩ (c_X13_isSheet l D T x4) (va_cwS 1 hts gX13_dues_X13_isSheet rfl rfl rfl hs_X13_isSheet ⟨Nat.le_of_ble_eq_true rfl, Nat.le_of_ble_eq_true rfl⟩) (pR_S hP hE [] rfl) rfl rfl hl.1 rfl (lv_room (Nat.le_of_ble_eq_true rfl)) dX13_dues_12 ⟨Nat.le_of_ble_eq_true rfl, Nat.le_of_ble_eq_true rfl⟩) (fun r_3 hr_3 => ?_)
    rcases bool_post hr_3 with ⟨c_4, rfl⟩ | ⟨c_4, rfl⟩
    · refine lv_if_ne (tgt := 21) hx hb dX13_dues_15 (by decide +kernel) (fun _ => ?_) (fun c9 => absurd c9 (by decide +kernel))
      refine lv_aload_n hx hb dX13_dues_21 rfl (lv_at hl 0 rfl) ?_
      refine va_get (D := D) (ci := 10) (v := .ref (a 34)) (C := RX13) (T := TX13) (N := 45) hx hb hts in_X13_dues_X13 hown hE.1 hP 0 rfl rfl 34 (by decide +kernel) (hts (.fieldLink RX13 104 "ClauseBookModel" "sorts" "[I") (List.mem_of_getElem? (i := 1) rfl)) (fun _ h9 => h9) rfl dX13_dues_22 ?_
      refine lv_iload hx hb dX13_dues_25 (lv_at hl 4 rfl) ?_
      refine va_iald hx hb hE.1 hP 12 0 rfl rfl (by rw [vp_in_iff]; first | omega | (subst_vars; omega)) dX13_dues_27 ?_
      refine lv_topi (fun z_5 ez_5 => ?_)
      refine lv_if_ge (tgt := 34) hx hb dX13_dues_28 (by decide +kernel) (fun c_6 => ?_) (fun c_6 => ?_)
      · rw [fa_le] at c_6
        try rw [ti_0] at c_6
        refine lv_aload_n hx hb dX13_dues_34 rfl (lv_at hl 0 rfl) ?_
        refine lv_iload_n hx hb dX13_dues_35 rfl (lv_at hl 1 rfl) ?_
        refine lv_iload_n hx hb dX13_dues_36 rfl (lv_at hl 2 rfl) ?_
        refine lv_iload_n hx hb dX13_dues_37 rfl (lv_at hl 3 rfl) ?_
        have hFc := va_free (wc := [(h0, .inr (10, (Value.int (q 0) :: Value.int (q 1) :: Value.int (q 2) :: Value.int (q 3) :: Value.int (q 4) :: Value.int (q 5) :: Value.int (q 6) :: Value.int (q 7) :: Value.ref (a 8) :: Value.ref (a 9) :: Value.ref (a 10) :: Value.ref (a 11) :: Value.ref (a 12) :: Value.ref (a 13) :: Value.int (q 14) :: Value.long v :: Value.long w :: Value.ref (a 17) :: Value.ref (a 18) :: Value.ref (a 19) :: Value.ref (a 20) :: Value.ref (a 21) :: Value.ref (a 22) :: Value.ref (a 23) :: Value.int (q 24) :: Value.ref (a 25) :: Value.int (q 26) :: Value.ref (a 27) :: Value.int (q 28) :: Value.int (q 29) :: Value.int (q 30) :: Value.int (q 31) :: Value.int (q 32) :: Value.int (q 33) :: Value.ref (a 34) :: Value.ref (a 35) :: Value.ref (a 36) :: Value.ref (a 37) :: Value.ref (a 38) :: Value.ref (a 39) :: Value.ref (a 40) :: Value.int (q 41) :: Value.ref (a 42) :: Value.int (q 43) :: Value.int (q 44) :: []))), ((a 8), .inl (T 0, 24, .inl f8)), ((a 9), .inl (T 0, 24, .inl f9)), ((a 10), .inl (T 0, 24, .inl f10)), ((a 11), .inl (T 0, 24, .inl f11)), ((a 17), .inl (T 0, 24, .inl f17)), ((a 18), .inl (T 0, 24, .inl f18)), ((a 19), .inl (T 0, 24, .inl f19)), ((a 20), .inl (T 1, 672, .inr (.inl f20))), ((a 21), .inl (T 1, 672, .inr (.inl f21))), ((a 22), .inl (T 4, 672, .inl f22)), ((a 23), .inl (T 1, 7, .inr (.inl f23)))]) hD hS hA [0, 1, 2, 3, 4, 5, 6, 7, 8, 9, 10, 11] rfl
        refine va_calli (va_runV (As := [.int x1, .int x2, .int x3]) (rest := []) ⟨hx, hb, hml, hown, hts⟩ (c_X13_laysDues l D T _ h0 q v w a f8 f9 f10 f11 f17 f18 f19 f20 f21 f22 f23 x1 x2 x3 (show isB (q 14) from hB) (show 0 ≤ (q 7).toInt ∧ (q 7).toInt ≤ 24 from (by omega)) (show okR f8 f10 f11 from hokR) (show ∀ j : Nat, isB (f22 j) from hZ) (show (1 ≤ (q 4).toInt ∧ (q 4).toInt ≤ 9) ∧ 1 ≤ (q 6).toInt ∧ (q 6).toInt ≤ 9 from (by omega)) (show 0 ≤ x1.toInt ∧ x1.toInt < (q 7).toInt from (by omega)) (show 0 ≤ x2.toInt ∧ x2.toInt ≤ 6 from (by omega)) (show 0 ≤ x3.toInt ∧ x3.toInt ≤ 63 from (by omega))) (cwV 3 hts gX13_dues_X13_laysDues rfl rfl rfl hv_X13_laysDues ⟨Nat.le_of_ble_eq_true rfl, Nat.le_of_ble_eq_true rfl⟩) (pW_V (q := (RX13, TX13, 45)) (ci := 10) (q0 := 0) hP hE hD rfl rfl [0, 1, 2, 3, 4, 5, 6, 7, 8, 9, 10, 11] (by decide +kernel) rfl rfl) rfl rfl hl.1 rfl (lv_room (Nat.le_of_ble_eq_true rfl)) dX13_dues_38 ⟨Nat.le_of_ble_eq_true rfl, Nat.le_of_ble_eq_true rfl⟩) hS (fun q _ h => hFc q h) hFc (fun r_7 u_8 t H1 locs ht hvm hr_7 hB hz1 hk1 hS => ?_)
        obtain ⟨n_9, n_10, l_11, l_12, f_13, f_14, f_15, f_16, f_17, f_18, f_19⟩ := u_8
        obtain ⟨hi0_r_7, hi1_r_7, hi2_r_7, hi3_r_7, hi4_r_7, hi5_r_7⟩ := hr_7
        have hB14_r_7 : isB n_9 := hi0_r_7
        have hZ : ∀ j : Nat, isB (f_18 j) := hi1_r_7
        have hr01 : r_7 = 0 ∨ r_7 = 1 := hi2_r_7
        have hMEr : ∀ j : Nat, (j : Int) < (q 7).toInt → mesP f8 f9 f10 f11 f_13 f_14 f_15 j := hi3_r_7
        have hj4_r_7 : ∃ s9 : duS, dusP (lqW (q 0) (q 1) (q 2) (q 3) (q 4) (q 5) (q 6)) f8 f9 f10 f11 f_13 f_14 (VALW (lqW (q 0) (q 1) (q 2) (q 3) (q 4) (q 5) (q 6)) f8 f9 f10 f11 f_13) x3 x1 x2 s9 ∧ (¬ (r_7 : Int32).toInt = 0 → s9.2.2.toInt = 0 ∧ s9.1 = f_19 ∧ s9.2.1 = n_10) ∧ ((r_7 : Int32).toInt = 0 → ¬ s9.2.2.toInt = 0) := hi4_r_7
        have hj5_r_7 : ¬ (r_7 : Int32).toInt = 0 → (n_9 : Int32).toInt = 0 := hi5_r_7
        obtain ⟨hP1, hD1⟩ := hB
        rw [ht] at hP1
        obtain ⟨hP, hD⟩ := va_repl [(h0, .inr (10, (Value.int (q 0) :: Value.int (q 1) :: Value.int (q 2) :: Value.int (q 3) :: Value.int (q 4) :: Value.int (q 5) :: Value.int (q 6) :: Value.int (q 7) :: Value.ref (a 8) :: Value.ref (a 9) :: Value.ref (a 10) :: Value.ref (a 11) :: Value.ref (a 12) :: Value.ref (a 13) :: Value.int n_9 :: Value.long l_11 :: Value.long l_12 :: Value.ref (a 17) :: Value.ref (a 18) :: Value.ref (a 19) :: Value.ref (a 20) :: Value.ref (a 21) :: Value.ref (a 22) :: Value.ref (a 23) :: Value.int n_10 :: Value.ref (a 25) :: Value.int (q 26) :: Value.ref (a 27) :: Value.int (q 28) :: Value.int (q 29) :: Value.int (q 30) :: Value.int (q 31) :: Value.int (q 32) :: Value.int (q 33) :: Value.ref (a 34) :: Value.ref (a 35) :: Value.ref (a 36) :: Value.ref (a 37) :: Value.ref (a 38) :: Value.ref (a 39) :: Value.ref (a 40) :: Value.int (q 41) :: Value.ref (a 42) :: Value.int (q 43) :: Value.int (q 44) :: []))), ((a 8), .inl (T 0, 24, .inl f8)), ((a 9), .inl (T 0, 24, .inl f9)), ((a 10), .inl (T 0, 24, .inl f10)), ((a 11), .inl (T 0, 24, .inl f11)), ((a 17), .inl (T 0, 24, .inl f_13)), ((a 18), .inl (T 0, 24, .inl f_14)), ((a 19), .inl (T 0, 24, .inl f_15)), ((a 20), .inl (T 1, 672, .inr (.inl f_16))), ((a 21), .inl (T 1, 672, .inr (.inl f_17))), ((a 22), .inl (T 4, 672, .inl f_18)), ((a 23), .inl (T 1, 7, .inr (.inl f_19))), ((a 34), .inl (T 0, 4, .inl f34)), ((a 35), .inl (T 0, 4, .inl f35)), ((a 36), .inl (T 1, 120, .inr (.inl f36))), ((a 37), .inl (T 3, 120, .inr (.inr (.inr (.inl f37)))))] hP hD [0, 1, 2, 3, 4, 5, 6, 7, 8, 9, 10, 11] [0, 1, 2, 3, 4, 5, 6, 7, 8, 9, 10, 11] rfl (by decide +kernel) rfl rfl rfl hk1 hP1
        clear hP1 hD1 hFc
        generalize H1 = H at hP hS ⊢
        refine lv_if_ne (tgt := 47) hx hb dX13_dues_41 (by decide +kernel) (fun c_20 => ?_) (fun c_20 => ?_)
        · rw [fa_eq] at c_20
          try rw [ti_0] at c_20
          refine lv_iconst (v := 0) hx hb dX13_dues_47 (by decide +kernel) ?_
          refine lv_istore (lv' := [(5, .int 0), (0, .ref h0), (1, .int x1), (2, .int x2), (3, .int x3), (4, .int x4)]) hx hb dX13_dues_48 hl (by decide +kernel) rfl (fun ls hl => ?_)
          refine loopWD (cs := lw_cs) (σ := (Int32) × (Nat → Int64) × (Nat → UInt64)) (fun x9 ls H locs => lv_has ls 7 [(5, .int x9.1), (0, .ref h0), (1, .int x1), (2, .int x2), (3, .int x3), (4, .int x4)] ∧ va_P D vwCl [(h0, .inr (10, (Value.int (q 0) :: Value.int (q 1) :: Value.int (q 2) :: Value.int (q 3) :: Value.int (q 4) :: Value.int (q 5) :: Value.int (q 6) :: Value.int (q 7) :: Value.ref (a 8) :: Value.ref (a 9) :: Value.ref (a 10) :: Value.ref (a 11) :: Value.ref (a 12) :: Value.ref (a 13) :: Value.int n_9 :: Value.long l_11 :: Value.long l_12 :: Value.ref (a 17) :: Value.ref (a 18) :: Value.ref (a 19) :: Value.ref (a 20) :: Value.ref (a 21) :: Value.ref (a 22) :: Value.ref (a 23) :: Value.int n_10 :: Value.ref (a 25) :: Value.int (q 26) :: Value.ref (a 27) :: Value.int (q 28) :: Value.int (q 29) :: Value.int (q 30) :: Value.int (q 31) :: Value.int (q 32) :: Value.int (q 33) :: Value.ref (a 34) :: Value.ref (a 35) :: Value.ref (a 36) :: Value.ref (a 37) :: Value.ref (a 38) :: Value.ref (a 39) :: Value.ref (a 40) :: Value.int (q 41) :: Value.ref (a 42) :: Value.int (q 43) :: Value.int (q 44) :: []))), ((a 8), .inl (T 0, 24, .inl f8)), ((a 9), .inl (T 0, 24, .inl f9)), ((a 10), .inl (T 0, 24, .inl f10)), ((a 11), .inl (T 0, 24, .inl f11)), ((a 17), .inl (T 0, 24, .inl f_13)), ((a 18), .inl (T 0, 24, .inl f_14)), ((a 19), .inl (T 0, 24, .inl f_15)), ((a 20), .inl (T 1, 672, .inr (.inl f_16))), ((a 21), .inl (T 1, 672, .inr (.inl f_17))), ((a 22), .inl (T 4, 672, .inl f_18)), ((a 23), .inl (T 1, 7, .inr (.inl f_19))), ((a 34), .inl (T 0, 4, .inl f34)), ((a 35), .inl (T 0, 4, .inl f35)), ((a 36), .inl (T 1, 120, .inr (.inl x9.2.1))), ((a 37), .inl (T 3, 120, .inr (.inr (.inr (.inl x9.2.2)))))] H ∧ va_D A [(h0, .inr (10, (Value.int (q 0) :: Value.int (q 1) :: Value.int (q 2) :: Value.int (q 3) :: Value.int (q 4) :: Value.int (q 5) :: Value.int (q 6) :: Value.int (q 7) :: Value.ref (a 8) :: Value.ref (a 9) :: Value.ref (a 10) :: Value.ref (a 11) :: Value.ref (a 12) :: Value.ref (a 13) :: Value.int n_9 :: Value.long l_11 :: Value.long l_12 :: Value.ref (a 17) :: Value.ref (a 18) :: Value.ref (a 19) :: Value.ref (a 20) :: Value.ref (a 21) :: Value.ref (a 22) :: Value.ref (a 23) :: Value.int n_10 :: Value.ref (a 25) :: Value.int (q 26) :: Value.ref (a 27) :: Value.int (q 28) :: Value.int (q 29) :: Value.int (q 30) :: Value.int (q 31) :: Value.int (q 32) :: Value.int (q 33) :: Value.ref (a 34) :: Value.ref (a 35) :: Value.ref (a 36) :: Value.ref (a 37) :: Value.ref (a 38) :: Value.ref (a 39) :: Value.ref (a 40) :: Value.int (q 41) :: Value.ref (a 42) :: Value.int (q 43) :: Value.int (q 44) :: []))), ((a 8), .inl (T 0, 24, .inl f8)), ((a 9), .inl (T 0, 24, .inl f9)), ((a 10), .inl (T 0, 24, .inl f10)), ((a 11), .inl (T 0, 24, .inl f11)), ((a 17), .inl (T 0, 24, .inl f_13)), ((a 18), .inl (T 0, 24, .inl f_14)), ((a 19), .inl (T 0, 24, .inl f_15)), ((a 20), .inl (T 1, 672, .inr (.inl f_16))), ((a 21), .inl (T 1, 672, .inr (.inl f_17))), ((a 22), .inl (T 4, 672, .inl f_18)), ((a 23), .inl (T 1, 7, .inr (.inl f_19))), ((a 34), .inl (T 0, 4, .inl f34)), ((a 35), .inl (T 0, 4, .inl f35)), ((a 36), .inl (T 1, 120, .inr (.inl x9.2.1))), ((a 37), .inl (T 3, 120, .inr (.inr (.inr (.inl x9.2.2)))))] ∧ va_S A s.heap H locs ∧ (0 ≤ x9.1.toInt)) (fun x9 => (7 - x9.1.toInt).toNat) (fun x9 ls H locs d_21 hd_21 hI ih => ?_) (0, f36, f37) ls _ hd0 ⟨lv_sub hl [0, 1, 2, 3, 4, 5] rfl, hP.sub [0, 1, 2, 3, 4, 5, 6, 7, 8, 9, 10, 11, 12, 13, 14, 15] rfl, hD.sub [0, 1, 2, 3, 4, 5, 6, 7, 8, 9, 10, 11, 12, 13, 14, 15] (by decide +kernel) rfl, hS, (by (try dsimp only); decide)⟩
          obtain ⟨tt, g36, g37⟩ := x9
          obtain ⟨hl, hP, hD, hS, hinv⟩ := hI
          have hl : lv_has ls 7 [(5, .int tt), (0, .ref h0), (1, .int x1), (2, .int x2), (3, .int x3), (4, .int x4)] := hl
          have hP : va_P D vwCl [(h0, .inr (10, (Value.int (q 0) :: Value.int (q 1) :: Value.int (q 2) :: Value.int (q 3) :: Value.int (q 4) :: Value.int (q 5) :: Value.int (q 6) :: Value.int (q 7) :: Value.ref (a 8) :: Value.ref (a 9) :: Value.ref (a 10) :: Value.ref (a 11) :: Value.ref (a 12) :: Value.ref (a 13) :: Value.int n_9 :: Value.long l_11 :: Value.long l_12 :: Value.ref (a 17) :: Value.ref (a 18) :: Value.ref (a 19) :: Value.ref (a 20) :: Value.ref (a 21) :: Value.ref (a 22) :: Value.ref (a 23) :: Value.int n_10 :: Value.ref (a 25) :: Value.int (q 26) :: Value.ref (a 27) :: Value.int (q 28) :: Value.int (q 29) :: Value.int (q 30) :: Value.int (q 31) :: Value.int (q 32) :: Value.int (q 33) :: Value.ref (a 34) :: Value.ref (a 35) :: Value.ref (a 36) :: Value.ref (a 37) :: Value.ref (a 38) :: Value.ref (a 39) :: Value.ref (a 40) :: Value.int (q 41) :: Value.ref (a 42) :: Value.int (q 43) :: Value.int (q 44) :: []))), ((a 8), .inl (T 0, 24, .inl f8)), ((a 9), .inl (T 0, 24, .inl f9)), ((a 10), .inl (T 0, 24, .inl f10)), ((a 11), .inl (T 0, 24, .inl f11)), ((a 17), .inl (T 0, 24, .inl f_13)), ((a 18), .inl (T 0, 24, .inl f_14)), ((a 19), .inl (T 0, 24, .inl f_15)), ((a 20), .inl (T 1, 672, .inr (.inl f_16))), ((a 21), .inl (T 1, 672, .inr (.inl f_17))), ((a 22), .inl (T 4, 672, .inl f_18)), ((a 23), .inl (T 1, 7, .inr (.inl f_19))), ((a 34), .inl (T 0, 4, .inl f34)), ((a 35), .inl (T 0, 4, .inl f35)), ((a 36), .inl (T 1, 120, .inr (.inl g36))), ((a 37), .inl (T 3, 120, .inr (.inr (.inr (.inl g37)))))] H := hP
          have hD : va_D A [(h0, .inr (10, (Value.int (q 0) :: Value.int (q 1) :: Value.int (q 2) :: Value.int (q 3) :: Value.int (q 4) :: Value.int (q 5) :: Value.int (q 6) :: Value.int (q 7) :: Value.ref (a 8) :: Value.ref (a 9) :: Value.ref (a 10) :: Value.ref (a 11) :: Value.ref (a 12) :: Value.ref (a 13) :: Value.int n_9 :: Value.long l_11 :: Value.long l_12 :: Value.ref (a 17) :: Value.ref (a 18) :: Value.ref (a 19) :: Value.ref (a 20) :: Value.ref (a 21) :: Value.ref (a 22) :: Value.ref (a 23) :: Value.int n_10 :: Value.ref (a 25) :: Value.int (q 26) :: Value.ref (a 27) :: Value.int (q 28) :: Value.int (q 29) :: Value.int (q 30) :: Value.int (q 31) :: Value.int (q 32) :: Value.int (q 33) :: Value.ref (a 34) :: Value.ref (a 35) :: Value.ref (a 36) :: Value.ref (a 37) :: Value.ref (a 38) :: Value.ref (a 39) :: Value.ref (a 40) :: Value.int (q 41) :: Value.ref (a 42) :: Value.int (q 43) :: Value.int (q 44) :: []))), ((a 8), .inl (T 0, 24, .inl f8)), ((a 9), .inl (T 0, 24, .inl f9)), ((a 10), .inl (T 0, 24, .inl f10)), ((a 11), .inl (T 0, 24, .inl f11)), ((a 17), .inl (T 0, 24, .inl f_13)), ((a 18), .inl (T 0, 24, .inl f_14)), ((a 19), .inl (T 0, 24, .inl f_15)), ((a 20), .inl (T 1, 672, .inr (.inl f_16))), ((a 21), .inl (T 1, 672, .inr (.inl f_17))), ((a 22), .inl (T 4, 672, .inl f_18)), ((a 23), .inl (T 1, 7, .inr (.inl f_19))), ((a 34), .inl (T 0, 4, .inl f34)), ((a 35), .inl (T 0, 4, .inl f35)), ((a 36), .inl (T 1, 120, .inr (.inl g36))), ((a 37), .inl (T 3, 120, .inr (.inr (.inr (.inl g37)))))] := hD
          have hinv : 0 ≤ tt.toInt := hinv
          have hts := dr_words hts0 d_21
          have hE : ekK D T (s.setDrawn d_21) := ekK.same (u := s) rfl hE0
          have hown : (s.setDrawn d_21).vm.findClass RX13 = some m.cls := hown0
          refine lv_iload hx hb dX13_dues_50 (lv_at hl 0 rfl) ?_
          refine lv_bipush (v := 6) hx hb dX13_dues_52 (by decide +kernel) ?_
          refine lv_icmp_gt (tgt := 88) hx hb dX13_dues_54 (by decide +kernel) (fun c_22 => ?_) (fun c_22 => ?_)
          · rw [fa_lt] at c_22
            try rw [ti_6] at c_22
            refine lv_bipush (v := 7) hx hb dX13_dues_88 (by decide +kernel) ?_
            refine W.endD hd_21 ?_
            exact W.iret hx hb hr (fun t ht hW => ⟨⟨_, (n_9, n_10, l_11, l_12, f_13, f_14, f_15, f_16, f_17, f_18, f_19, g36, g37), rfl, ⟨(show isB n_9 from hB14_r_7), (show ∀ j : Nat, isB (f_18 j) from hZ)⟩, by rw [ht]; exact hP.sub [0, 1, 2, 3, 4, 5, 6, 7, 8, 9, 10, 11, 12, 13, 14, 15] rfl, hD.sub [0, 1, 2, 3, 4, 5, 6, 7, 8, 9, 10, 11, 12, 13, 14, 15] (by decide +kernel) rfl⟩, hS.F ht⟩) hS.2.2 dX13_dues_90
          · rw [fa_lt] at c_22
            try rw [ti_6] at c_22
            refine lv_aload_n hx hb dX13_dues_57 rfl (lv_at hl 1 rfl) ?_
            refine lv_iload hx hb dX13_dues_58 (lv_at hl 5 rfl) ?_
            refine lv_iload hx hb dX13_dues_60 (lv_at hl 0 rfl) ?_
            refine lv_aload_n hx hb dX13_dues_62 rfl (lv_at hl 1 rfl) ?_
            refine va_get (D := D) (ci := 10) (v := .ref (a 23)) (C := RX13) (T := TX13) (N := 45) hx hb hts in_X13_dues_X13 hown hE.1 hP 0 rfl rfl 23 (by decide +kernel) (hts (.fieldLink RX13 67 "ClauseBookModel" "due" "[J") (List.mem_of_getElem? (i := 2) rfl)) (fun _ h9 => h9) rfl dX13_dues_63 ?_
            refine lv_iload hx hb dX13_dues_66 (lv_at hl 0 rfl) ?_
            refine va_lald hx hb hE.1 hP 11 1 rfl rfl (by rw [vp_in_iff]; first | omega | (subst_vars; omega)) dX13_dues_68 ?_
            refine lv_topl (fun z_23 ez_23 => ?_)
            have hFc := va_free (wc := [(h0, .inr (10, (Value.int (q 0) :: Value.int (q 1) :: Value.int (q 2) :: Value.int (q 3) :: Value.int (q 4) :: Value.int (q 5) :: Value.int (q 6) :: Value.int (q 7) :: Value.ref (a 8) :: Value.ref (a 9) :: Value.ref (a 10) :: Value.ref (a 11) :: Value.ref (a 12) :: Value.ref (a 13) :: Value.int n_9 :: Value.long l_11 :: Value.long l_12 :: Value.ref (a 17) :: Value.ref (a 18) :: Value.ref (a 19) :: Value.ref (a 20) :: Value.ref (a 21) :: Value.ref (a 22) :: Value.ref (a 23) :: Value.int n_10 :: Value.ref (a 25) :: Value.int (q 26) :: Value.ref (a 27) :: Value.int (q 28) :: Value.int (q 29) :: Value.int (q 30) :: Value.int (q 31) :: Value.int (q 32) :: Value.int (q 33) :: Value.ref (a 34) :: Value.ref (a 35) :: Value.ref (a 36) :: Value.ref (a 37) :: Value.ref (a 38) :: Value.ref (a 39) :: Value.ref (a 40) :: Value.int (q 41) :: Value.ref (a 42) :: Value.int (q 43) :: Value.int (q 44) :: []))), ((a 34), .inl (T 0, 4, .inl f34)), ((a 35), .inl (T 0, 4, .inl f35)), ((a 36), .inl (T 1, 120, .inr (.inl g36))), ((a 37), .inl (T 3, 120, .inr (.inr (.inr (.inl g37)))))]) hD hS hA [0, 12, 13, 14, 15] rfl
            refine va_calliD hd_21 (va_runV_D (As := [.int x4, .int tt, .long z_23]) (rest := []) ⟨hx, hb, hml, hown, hts⟩ (c_X13_cell l D T _ h0 (fun k => cond (Nat.beq k 14) n_9 (cond (Nat.beq k 24) n_10 (q k))) l_11 l_12 a f34 f35 g36 g37 x4 tt z_23 (show ∀ k : Nat, k < 4 → 0 ≤ (f35 k).toInt ∧ (f35 k).toInt ≤ 30 from hsz)) (cwV 3 hts gX13_dues_X13_cell rfl rfl rfl hv_X13_cell ⟨Nat.le_of_ble_eq_true rfl, Nat.le_of_ble_eq_true rfl⟩) (pW_V (q := (RX13, TX13, 45)) (ci := 10) (q0 := 0) hP hE hD rfl rfl [0, 12, 13, 14, 15] (by decide +kernel) rfl rfl) rfl rfl hl.1 rfl (lv_room (Nat.le_of_ble_eq_true rfl)) dX13_dues_69 ⟨Nat.le_of_ble_eq_true rfl, Nat.le_of_ble_eq_true rfl⟩) hS (fun q _ h => hFc q h) hFc (fun r_24 u_25 t H1 locs ht hvm hr_24 hB hz1 hk1 hS d_26 hd_26 => ?_)
            have hts := dr_words hts0 d_26
            have hE : ekK D T (s.setDrawn d_26) := ekK.same (u := s) rfl hE0
            have hown : (s.setDrawn d_26).vm.findClass RX13 = some m.cls := hown0
            obtain ⟨f_27, f_28⟩ := u_25
            have hi0_r_24 := hr_24
            have hWx : (¬ (0 ≤ x4.toInt ∧ x4.toInt ≤ 3) → r_24.toInt = -2) ∧ ((0 ≤ x4.toInt ∧ x4.toInt ≤ 3) → ((f34 (x4.toNatClampNeg)).toInt < 0 → r_24.toInt = -11) ∧ (¬ (f34 (x4.toNatClampNeg)).toInt < 0 → ((0 ≤ tt.toInt ∧ tt.toInt < (f35 (x4.toNatClampNeg)).toInt) → ((f34 (x4.toNatClampNeg)).toInt = 0 ∧ ¬ z_23.toInt = z_23.toInt32.toInt → r_24.toInt = -5) ∧ (¬ ((f34 (x4.toNatClampNeg)).toInt = 0 ∧ ¬ z_23.toInt = z_23.toInt32.toInt) → r_24.toInt = 1)) ∧ (¬ (0 ≤ tt.toInt ∧ tt.toInt < (f35 (x4.toNatClampNeg)).toInt) → r_24.toInt = -12))) := hi0_r_24
            obtain ⟨hP1, hD1⟩ := hB
            rw [ht] at hP1
            obtain ⟨hP, hD⟩ := va_repl [(h0, .inr (10, (Value.int (q 0) :: Value.int (q 1) :: Value.int (q 2) :: Value.int (q 3) :: Value.int (q 4) :: Value.int (q 5) :: Value.int (q 6) :: Value.int (q 7) :: Value.ref (a 8) :: Value.ref (a 9) :: Value.ref (a 10) :: Value.ref (a 11) :: Value.ref (a 12) :: Value.ref (a 13) :: Value.int n_9 :: Value.long l_11 :: Value.long l_12 :: Value.ref (a 17) :: Value.ref (a 18) :: Value.ref (a 19) :: Value.ref (a 20) :: Value.ref (a 21) :: Value.ref (a 22) :: Value.ref (a 23) :: Value.int n_10 :: Value.ref (a 25) :: Value.int (q 26) :: Value.ref (a 27) :: Value.int (q 28) :: Value.int (q 29) :: Value.int (q 30) :: Value.int (q 31) :: Value.int (q 32) :: Value.int (q 33) :: Value.ref (a 34) :: Value.ref (a 35) :: Value.ref (a 36) :: Value.ref (a 37) :: Value.ref (a 38) :: Value.ref (a 39) :: Value.ref (a 40) :: Value.int (q 41) :: Value.ref (a 42) :: Value.int (q 43) :: Value.int (q 44) :: []))), ((a 8), .inl (T 0, 24, .inl f8)), ((a 9), .inl (T 0, 24, .inl f9)), ((a 10), .inl (T 0, 24, .inl f10)), ((a 11), .inl (T 0, 24, .inl f11)), ((a 17), .inl (T 0, 24, .inl f_13)), ((a 18), .inl (T 0, 24, .inl f_14)), ((a 19), .inl (T 0, 24, .inl f_15)), ((a 20), .inl (T 1, 672, .inr (.inl f_16))), ((a 21), .inl (T 1, 672, .inr (.inl f_17))), ((a 22), .inl (T 4, 672, .inl f_18)), ((a 23), .inl (T 1, 7, .inr (.inl f_19))), ((a 34), .inl (T 0, 4, .inl f34)), ((a 35), .inl (T 0, 4, .inl f35)), ((a 36), .inl (T 1, 120, .inr (.inl f_27))), ((a 37), .inl (T 3, 120, .inr (.inr (.inr (.inl f_28)))))] hP hD [0, 12, 13, 14, 15] [0, 12, 13, 14, 15] rfl (by decide +kernel) rfl rfl rfl hk1 hP1
            clear hP1 hD1 hFc
            generalize H1 = H at hP hS ⊢
            refine lv_istore (lv' := [(6, .int r_24), (5, .int tt), (0, .ref h0), (1, .int x1), (2, .int x2), (3, .int x3), (4, .int x4)]) hx hb dX13_dues_72 hl (by decide +kernel) rfl (fun ls hl => ?_)
            refine lv_iload hx hb dX13_dues_74 (lv_at hl 0 rfl) ?_
            refine lv_if_ge (tgt := 82) hx hb dX13_dues_76 (by decide +kernel) (fun c_29 => ?_) (fun c_29 => ?_)
            · rw [fa_le] at c_29
              try rw [ti_0] at c_29
              obtain ⟨z_30, ez_30⟩ : ∃ y : Int32, y = tt + 1 := ⟨_, rfl⟩
              refine lv_iinc (v := z_30) (lv' := [(5, .int z_30), (6, .int r_24), (0, .ref h0), (1, .int x1), (2, .int x2), (3, .int x3), (4, .int x4)]) hx hb dX13_dues_82 hl (k := 1) rfl (by rw [ez_30]; rfl) (by decide +kernel) rfl (fun ls hl => ?_)
              refine lv_goto (tgt := 50) hx hb dX13_dues_85 (by decide +kernel) ?_
              exact ih (z_30, f_27, f_28) ls _ _ _ hd_26 ⟨lv_sub hl [0, 2, 3, 4, 5, 6] rfl, hP.sub [0, 1, 2, 3, 4, 5, 6, 7, 8, 9, 10, 11, 12, 13, 14, 15] rfl, hD.sub [0, 1, 2, 3, 4, 5, 6, 7, 8, 9, 10, 11, 12, 13, 14, 15] (by decide +kernel) rfl, hS, (by subst_vars; (try dsimp only); rw [inc1 (i := tt) (n := 1000) (by omega) (by decide +kernel)]; omega)⟩ (by subst_vars; (try dsimp only); rw [inc1 (i := tt) (n := 1000) (by omega) (by decide +kernel)]; omega)
            · rw [fa_le] at c_29
              try rw [ti_0] at c_29
              refine lv_iload hx hb dX13_dues_79 (lv_at hl 0 rfl) ?_
              refine W.endD hd_26 ?_
              exact W.iret hx hb hr (fun t ht hW => ⟨⟨_, (n_9, n_10, l_11, l_12, f_13, f_14, f_15, f_16, f_17, f_18, f_19, f_27, f_28), rfl, ⟨(show isB n_9 from hB14_r_7), (show ∀ j : Nat, isB (f_18 j) from hZ)⟩, by rw [ht]; exact hP.sub [0, 1, 2, 3, 4, 5, 6, 7, 8, 9, 10, 11, 12, 13, 14, 15] rfl, hD.sub [0, 1, 2, 3, 4, 5, 6, 7, 8, 9, 10, 11, 12, 13, 14, 15] (by decide +kernel) rfl⟩, hS.F ht⟩) hS.2.2 dX13_dues_81
        · rw [fa_eq] at c_20
          try rw [ti_0] at c_20
          refine lv_bipush (v := (-5)) hx hb dX13_dues_44 (by decide +kernel) ?_
          refine W.endD hd0 ?_
          exact W.iret hx hb hr (fun t ht hW => ⟨⟨_, (n_9, n_10, l_11, l_12, f_13, f_14, f_15, f_16, f_17, f_18, f_19, f36, f37), rfl, ⟨(show isB n_9 from hB14_r_7), (show ∀ j : Nat, isB (f_18 j) from hZ)⟩, by rw [ht]; exact hP.sub [0, 1, 2, 3, 4, 5, 6, 7, 8, 9, 10, 11, 12, 13, 14, 15] rfl, hD.sub [0, 1, 2, 3, 4, 5, 6, 7, 8, 9, 10, 11, 12, 13, 14, 15] (by decide +kernel) rfl⟩, hS.F ht⟩) hS.2.2 dX13_dues_46
      · rw [fa_le] at c_6
        try rw [ti_0] at c_6
        refine lv_bipush (v := (-11)) hx hb dX13_dues_31 (by decide +kernel) ?_
        refine W.endD hd0 ?_
        exact W.iret hx hb hr (fun t ht hW => ⟨⟨_, ((q 14), (q 24), v, w, f17, f18, f19, f20, f21, f22, f23, f36, f37), rfl, ⟨(show isB (q 14) from hB), (show ∀ j : Nat, isB (f22 j) from hZ)⟩, by rw [ht]; exact hP.sub [0, 1, 2, 3, 4, 5, 6, 7, 8, 9, 10, 11, 12, 13, 14, 15] rfl, hD.sub [0, 1, 2, 3, 4, 5, 6, 7, 8, 9, 10, 11, 12, 13, 14, 15] (by decide +kernel) rfl⟩, hS.F ht⟩) hS.2.2 dX13_dues_33
    · refine lv_if_ne (tgt := 21) hx hb dX13_dues_15 (by decide +kernel) (fun c9 => absurd c9 (by decide +kernel)) (fun _ => ?_)
      refine lv_bipush (v := (-2)) hx hb dX13_dues_18 (by decide +kernel) ?_
      refine W.endD hd0 ?_
      exact W.iret hx hb hr (fun t ht hW => ⟨⟨_, ((q 14), (q 24), v, w, f17, f18, f19, f20, f21, f22, f23, f36, f37), rfl, ⟨(show isB (q 14) from hB), (show ∀ j : Nat, isB (f22 j) from hZ)⟩, by rw [ht]; exact hP.sub [0, 1, 2, 3, 4, 5, 6, 7, 8, 9, 10, 11, 12, 13, 14, 15] rfl, hD.sub [0, 1, 2, 3, 4, 5, 6, 7, 8, 9, 10, 11, 12, 13, 14, 15] (by decide +kernel) rfl⟩, hS.F ht⟩) hS.2.2 dX13_dues_20
  · refine lv_if_eq (tgt := 18) hx hb dX13_dues_7 (by decide +kernel) (fun _ => ?_) (fun c9 => absurd c9 (by decide +kernel))
    refine lv_bipush (v := (-2)) hx hb dX13_dues_18 (by decide +kernel) ?_
    refine W.endD hd0 ?_
    exact W.iret hx hb hr (fun t ht hW => ⟨⟨_, ((q 14), (q 24), v, w, f17, f18, f19, f20, f21, f22, f23, f36, f37), rfl, ⟨(show isB (q 14) from hB), (show ∀ j : Nat, isB (f22 j) from hZ)⟩, by rw [ht]; exact hP.sub [0, 1, 2, 3, 4, 5, 6, 7, 8, 9, 10, 11, 12, 13, 14, 15] rfl, hD.sub [0, 1, 2, 3, 4, 5, 6, 7, 8, 9, 10, 11, 12, 13, 14, 15] (by decide +kernel) rfl⟩, hS.F ht⟩) hS.2.2 dX13_dues_20
theorem dX13_copy_0 : decode cX13_copy 0 = .ok (.iload_n 1, 1) := by decide +kernel
theorem dX13_copy_1 : decode cX13_copy 1 = .ok (.invokestatic 332, 3) := by decide +kernel
theorem dX13_copy_100 : decode cX13_copy 100 = .ok (.iconst 0, 1) := by decide +kernel
theorem dX13_copy_101 : decode cX13_copy 101 = .ok (.istore 6, 2) := by decide +kernel
theorem dX13_copy_103 : decode cX13_copy 103 = .ok (.iload 6, 2) := by decide +kernel
theorem dX13_copy_105 : decode cX13_copy 105 = .ok (.iload 5, 2) := by decide +kernel
theorem dX13_copy_107 : decode cX13_copy 107 = .ok (.if_icmp .ge 87, 3) := by decide +kernel
theorem dX13_copy_11 : decode cX13_copy 11 = .ok (.ifCond .ne 6, 3) := by decide +kernel
theorem dX13_copy_110 : decode cX13_copy 110 = .ok (.iload_n 2, 1) := by decide +kernel
theorem dX13_copy_111 : decode cX13_copy 111 = .ok (.iload 4, 2) := by decide +kernel
theorem dX13_copy_113 : decode cX13_copy 113 = .ok (.if_icmp .le 8, 3) := by decide +kernel
theorem dX13_copy_116 : decode cX13_copy 116 = .ok (.iload 6, 2) := by decide +kernel
theorem dX13_copy_118 : decode cX13_copy 118 = .ok (.goto 10, 3) := by decide +kernel
theorem dX13_copy_121 : decode cX13_copy 121 = .ok (.iload 5, 2) := by decide +kernel
theorem dX13_copy_123 : decode cX13_copy 123 = .ok (.iconst 1, 1) := by decide +kernel
theorem dX13_copy_124 : decode cX13_copy 124 = .ok (.isub, 1) := by decide +kernel
theorem dX13_copy_125 : decode cX13_copy 125 = .ok (.iload 6, 2) := by decide +kernel
theorem dX13_copy_127 : decode cX13_copy 127 = .ok (.isub, 1) := by decide +kernel
theorem dX13_copy_128 : decode cX13_copy 128 = .ok (.istore 7, 2) := by decide +kernel
theorem dX13_copy_130 : decode cX13_copy 130 = .ok (.aload_n 0, 1) := by decide +kernel
theorem dX13_copy_131 : decode cX13_copy 131 = .ok (.getfield 110, 3) := by decide +kernel
theorem dX13_copy_134 : decode cX13_copy 134 = .ok (.bipush 30, 2) := by decide +kernel
theorem dX13_copy_136 : decode cX13_copy 136 = .ok (.iload_n 3, 1) := by decide +kernel
theorem dX13_copy_137 : decode cX13_copy 137 = .ok (.imul, 1) := by decide +kernel
theorem dX13_copy_138 : decode cX13_copy 138 = .ok (.iload 4, 2) := by decide +kernel
theorem dX13_copy_14 : decode cX13_copy 14 = .ok (.bipush (-2), 2) := by decide +kernel
theorem dX13_copy_140 : decode cX13_copy 140 = .ok (.iadd, 1) := by decide +kernel
theorem dX13_copy_141 : decode cX13_copy 141 = .ok (.iload 7, 2) := by decide +kernel
theorem dX13_copy_143 : decode cX13_copy 143 = .ok (.iadd, 1) := by decide +kernel
theorem dX13_copy_144 : decode cX13_copy 144 = .ok (.aload_n 0, 1) := by decide +kernel
theorem dX13_copy_145 : decode cX13_copy 145 = .ok (.getfield 110, 3) := by decide +kernel
theorem dX13_copy_148 : decode cX13_copy 148 = .ok (.bipush 30, 2) := by decide +kernel
theorem dX13_copy_150 : decode cX13_copy 150 = .ok (.iload_n 1, 1) := by decide +kernel
theorem dX13_copy_151 : decode cX13_copy 151 = .ok (.imul, 1) := by decide +kernel
theorem dX13_copy_152 : decode cX13_copy 152 = .ok (.iload_n 2, 1) := by decide +kernel
theorem dX13_copy_153 : decode cX13_copy 153 = .ok (.iadd, 1) := by decide +kernel
theorem dX13_copy_154 : decode cX13_copy 154 = .ok (.iload 7, 2) := by decide +kernel
theorem dX13_copy_156 : decode cX13_copy 156 = .ok (.iadd, 1) := by decide +kernel
theorem dX13_copy_157 : decode cX13_copy 157 = .ok (.laload, 1) := by decide +kernel
theorem dX13_copy_158 : decode cX13_copy 158 = .ok (.lastore, 1) := by decide +kernel
theorem dX13_copy_159 : decode cX13_copy 159 = .ok (.aload_n 0, 1) := by decide +kernel
theorem dX13_copy_16 : decode cX13_copy 16 = .ok (.ireturn, 1) := by decide +kernel
theorem dX13_copy_160 : decode cX13_copy 160 = .ok (.getfield 113, 3) := by decide +kernel
theorem dX13_copy_163 : decode cX13_copy 163 = .ok (.bipush 30, 2) := by decide +kernel
theorem dX13_copy_165 : decode cX13_copy 165 = .ok (.iload_n 3, 1) := by decide +kernel
theorem dX13_copy_166 : decode cX13_copy 166 = .ok (.imul, 1) := by decide +kernel
theorem dX13_copy_167 : decode cX13_copy 167 = .ok (.iload 4, 2) := by decide +kernel
theorem dX13_copy_169 : decode cX13_copy 169 = .ok (.iadd, 1) := by decide +kernel
theorem dX13_copy_17 : decode cX13_copy 17 = .ok (.aload_n 0, 1) := by decide +kernel
theorem dX13_copy_170 : decode cX13_copy 170 = .ok (.iload 7, 2) := by decide +kernel
theorem dX13_copy_172 : decode cX13_copy 172 = .ok (.iadd, 1) := by decide +kernel
theorem dX13_copy_173 : decode cX13_copy 173 = .ok (.aload_n 0, 1) := by decide +kernel
theorem dX13_copy_174 : decode cX13_copy 174 = .ok (.getfield 113, 3) := by decide +kernel
theorem dX13_copy_177 : decode cX13_copy 177 = .ok (.bipush 30, 2) := by decide +kernel
theorem dX13_copy_179 : decode cX13_copy 179 = .ok (.iload_n 1, 1) := by decide +kernel
theorem dX13_copy_18 : decode cX13_copy 18 = .ok (.getfield 104, 3) := by decide +kernel
theorem dX13_copy_180 : decode cX13_copy 180 = .ok (.imul, 1) := by decide +kernel
theorem dX13_copy_181 : decode cX13_copy 181 = .ok (.iload_n 2, 1) := by decide +kernel
theorem dX13_copy_182 : decode cX13_copy 182 = .ok (.iadd, 1) := by decide +kernel
theorem dX13_copy_183 : decode cX13_copy 183 = .ok (.iload 7, 2) := by decide +kernel
theorem dX13_copy_185 : decode cX13_copy 185 = .ok (.iadd, 1) := by decide +kernel
theorem dX13_copy_186 : decode cX13_copy 186 = .ok (.daload, 1) := by decide +kernel
theorem dX13_copy_187 : decode cX13_copy 187 = .ok (.dastore, 1) := by decide +kernel
theorem dX13_copy_188 : decode cX13_copy 188 = .ok (.iinc 6 1, 3) := by decide +kernel
theorem dX13_copy_191 : decode cX13_copy 191 = .ok (.goto (-88), 3) := by decide +kernel
theorem dX13_copy_194 : decode cX13_copy 194 = .ok (.iload 5, 2) := by decide +kernel
theorem dX13_copy_196 : decode cX13_copy 196 = .ok (.ireturn, 1) := by decide +kernel
theorem dX13_copy_21 : decode cX13_copy 21 = .ok (.iload_n 1, 1) := by decide +kernel
theorem dX13_copy_22 : decode cX13_copy 22 = .ok (.iaload, 1) := by decide +kernel
theorem dX13_copy_23 : decode cX13_copy 23 = .ok (.ifCond .lt 12, 3) := by decide +kernel
theorem dX13_copy_26 : decode cX13_copy 26 = .ok (.aload_n 0, 1) := by decide +kernel
theorem dX13_copy_27 : decode cX13_copy 27 = .ok (.getfield 104, 3) := by decide +kernel
theorem dX13_copy_30 : decode cX13_copy 30 = .ok (.iload_n 3, 1) := by decide +kernel
theorem dX13_copy_31 : decode cX13_copy 31 = .ok (.iaload, 1) := by decide +kernel
theorem dX13_copy_32 : decode cX13_copy 32 = .ok (.ifCond .ge 6, 3) := by decide +kernel
theorem dX13_copy_35 : decode cX13_copy 35 = .ok (.bipush (-11), 2) := by decide +kernel
theorem dX13_copy_37 : decode cX13_copy 37 = .ok (.ireturn, 1) := by decide +kernel
theorem dX13_copy_38 : decode cX13_copy 38 = .ok (.aload_n 0, 1) := by decide +kernel
theorem dX13_copy_39 : decode cX13_copy 39 = .ok (.getfield 104, 3) := by decide +kernel
theorem dX13_copy_4 : decode cX13_copy 4 = .ok (.ifCond .eq 10, 3) := by decide +kernel
theorem dX13_copy_42 : decode cX13_copy 42 = .ok (.iload_n 1, 1) := by decide +kernel
theorem dX13_copy_43 : decode cX13_copy 43 = .ok (.iaload, 1) := by decide +kernel
theorem dX13_copy_44 : decode cX13_copy 44 = .ok (.aload_n 0, 1) := by decide +kernel
theorem dX13_copy_45 : decode cX13_copy 45 = .ok (.getfield 104, 3) := by decide +kernel
theorem dX13_copy_48 : decode cX13_copy 48 = .ok (.iload_n 3, 1) := by decide +kernel
theorem dX13_copy_49 : decode cX13_copy 49 = .ok (.iaload, 1) := by decide +kernel
theorem dX13_copy_50 : decode cX13_copy 50 = .ok (.if_icmp .eq 6, 3) := by decide +kernel
theorem dX13_copy_53 : decode cX13_copy 53 = .ok (.bipush (-13), 2) := by decide +kernel
theorem dX13_copy_55 : decode cX13_copy 55 = .ok (.ireturn, 1) := by decide +kernel
theorem dX13_copy_56 : decode cX13_copy 56 = .ok (.iload 5, 2) := by decide +kernel
theorem dX13_copy_58 : decode cX13_copy 58 = .ok (.ifCond .lt 39, 3) := by decide +kernel
theorem dX13_copy_61 : decode cX13_copy 61 = .ok (.iload_n 2, 1) := by decide +kernel
theorem dX13_copy_62 : decode cX13_copy 62 = .ok (.ifCond .lt 35, 3) := by decide +kernel
theorem dX13_copy_65 : decode cX13_copy 65 = .ok (.iload 4, 2) := by decide +kernel
theorem dX13_copy_67 : decode cX13_copy 67 = .ok (.ifCond .lt 30, 3) := by decide +kernel
theorem dX13_copy_7 : decode cX13_copy 7 = .ok (.iload_n 3, 1) := by decide +kernel
theorem dX13_copy_70 : decode cX13_copy 70 = .ok (.iload 5, 2) := by decide +kernel
theorem dX13_copy_72 : decode cX13_copy 72 = .ok (.aload_n 0, 1) := by decide +kernel
theorem dX13_copy_73 : decode cX13_copy 73 = .ok (.getfield 107, 3) := by decide +kernel
theorem dX13_copy_76 : decode cX13_copy 76 = .ok (.iload_n 1, 1) := by decide +kernel
theorem dX13_copy_77 : decode cX13_copy 77 = .ok (.iaload, 1) := by decide +kernel
theorem dX13_copy_78 : decode cX13_copy 78 = .ok (.iload_n 2, 1) := by decide +kernel
theorem dX13_copy_79 : decode cX13_copy 79 = .ok (.isub, 1) := by decide +kernel
theorem dX13_copy_8 : decode cX13_copy 8 = .ok (.invokestatic 332, 3) := by decide +kernel
theorem dX13_copy_80 : decode cX13_copy 80 = .ok (.if_icmp .gt 17, 3) := by decide +kernel
theorem dX13_copy_83 : decode cX13_copy 83 = .ok (.iload 5, 2) := by decide +kernel
theorem dX13_copy_85 : decode cX13_copy 85 = .ok (.aload_n 0, 1) := by decide +kernel
theorem dX13_copy_86 : decode cX13_copy 86 = .ok (.getfield 107, 3) := by decide +kernel
theorem dX13_copy_89 : decode cX13_copy 89 = .ok (.iload_n 3, 1) := by decide +kernel
theorem dX13_copy_90 : decode cX13_copy 90 = .ok (.iaload, 1) := by decide +kernel
theorem dX13_copy_91 : decode cX13_copy 91 = .ok (.iload 4, 2) := by decide +kernel
theorem dX13_copy_93 : decode cX13_copy 93 = .ok (.isub, 1) := by decide +kernel
theorem dX13_copy_94 : decode cX13_copy 94 = .ok (.if_icmp .le 6, 3) := by decide +kernel
theorem dX13_copy_97 : decode cX13_copy 97 = .ok (.bipush (-12), 2) := by decide +kernel
theorem dX13_copy_99 : decode cX13_copy 99 = .ok (.ireturn, 1) := by decide +kernel
set_option maxRecDepth 20000 in
theorem ggX13_copy_X13_isSheet : GoodIn wsX13_copy wsX13_isSheet := goodIn_r _ [8, 9, 10, 11, 7, 12] rfl (by decide +kernel)
set_option maxRecDepth 20000 in
theorem gX13_copy_X13_isSheet : GoodIn wsX13_copy (va_wsS RX13 332 yX13_isSheet wsX13_isSheet) := goodIn_app (goodIn_of _ (by decide +kernel)) ggX13_copy_X13_isSheet
set_option maxRecDepth 20000 in
theorem in_X13_copy_X13 : ∀ w ∈ wsX130, w ∈ wsX13_copy := sub_r [13, 14, 15, 16, 17, 18, 19, 20, 21, 22, 23, 24, 25, 26, 27, 28, 29, 30, 31, 32, 33, 34, 35, 36, 37, 38, 39, 40, 41, 42, 43, 44, 45, 46, 47, 48, 49, 50, 51, 52, 53, 54, 55, 56, 57] rfl
set_option maxHeartbeats 4000000 in
set_option maxRecDepth 100000 in
theorem c_X13_copy (l : Launch) (D : va_G) (T : Nat → ClassId) (sz : Nat) (h0 : Nat) (q : Nat → Int32) (v : Int64) (w : Int64) (a : Nat → Nat) (f34 : Nat → Int32) (f35 : Nat → Int32) (f36 : Nat → Int64) (f37 : Nat → UInt64) (x1 : Int32) (x2 : Int32) (x3 : Int32) (x4 : Int32) (x5 : Int32) (hsz : ∀ k : Nat, k < 4 → 0 ≤ (f35 k).toInt ∧ (f35 k).toInt ≤ 30) : Met l yX13_copy wsX13_copy ({ frames := 2, cells := 0, slots := 0, locals := 45 }) (pW [.ref h0, .int x1, .int x2, .int x3, .int x4, .int x5] D T [(h0, .inr (10, (Value.int (q 0) :: Value.int (q 1) :: Value.int (q 2) :: Value.int (q 3) :: Value.int (q 4) :: Value.int (q 5) :: Value.int (q 6) :: Value.int (q 7) :: Value.ref (a 8) :: Value.ref (a 9) :: Value.ref (a 10) :: Value.ref (a 11) :: Value.ref (a 12) :: Value.ref (a 13) :: Value.int (q 14) :: Value.long v :: Value.long w :: Value.ref (a 17) :: Value.ref (a 18) :: Value.ref (a 19) :: Value.ref (a 20) :: Value.ref (a 21) :: Value.ref (a 22) :: Value.ref (a 23) :: Value.int (q 24) :: Value.ref (a 25) :: Value.int (q 26) :: Value.ref (a 27) :: Value.int (q 28) :: Value.int (q 29) :: Value.int (q 30) :: Value.int (q 31) :: Value.int (q 32) :: Value.int (q 33) :: Value.ref (a 34) :: Value.ref (a 35) :: Value.ref (a 36) :: Value.ref (a 37) :: Value.ref (a 38) :: Value.ref (a 39) :: Value.ref (a 40) :: Value.int (q 41) :: Value.ref (a 42) :: Value.int (q 43) :: Value.int (q 44) :: []))), ((a 34), .inl (T 0, 4, .inl f34)), ((a 35), .inl (T 0, 4, .inl f35)), ((a 36), .inl (T 1, 120, .inr (.inl f36))), ((a 37), .inl (T 3, 120, .inr (.inr (.inr (.inl f37)))))] sz) (va_Qi (fun (r : Int32) (u : (Nat → Int64) × (Nat → UInt64)) => ((¬ ((0 ≤ x1.toInt ∧ x1.toInt ≤ 3) ∧ (0 ≤ x3.toInt ∧ x3.toInt ≤ 3)) → r.toInt = -2) ∧ ((0 ≤ x1.toInt ∧ x1.toInt ≤ 3) → (0 ≤ x3.toInt ∧ x3.toInt ≤ 3) → ((f34 (x1.toNatClampNeg)).toInt < 0 ∨ (f34 (x3.toNatClampNeg)).toInt < 0 → r.toInt = -11) ∧ (¬ ((f34 (x1.toNatClampNeg)).toInt < 0 ∨ (f34 (x3.toNatClampNeg)).toInt < 0) → (¬ (f34 (x1.toNatClampNeg)).toInt = (f34 (x3.toNatClampNeg)).toInt → r.toInt = -13) ∧ ((f34 (x1.toNatClampNeg)).toInt = (f34 (x3.toNatClampNeg)).toInt → ((0 ≤ x5.toInt ∧ 0 ≤ x2.toInt ∧ 0 ≤ x4.toInt ∧ x2.toInt + x5.toInt ≤ (f35 (x1.toNatClampNeg)).toInt ∧ x4.toInt + x5.toInt ≤ (f35 (x3.toNatClampNeg)).toInt) → r.toInt = x5.toInt) ∧ (¬ (0 ≤ x5.toInt ∧ 0 ≤ x2.toInt ∧ 0 ≤ x4.toInt ∧ x2.toInt + x5.toInt ≤ (f35 (x1.toNatClampNeg)).toInt ∧ x4.toInt + x5.toInt ≤ (f35 (x3.toNatClampNeg)).toInt) → r.toInt = -12)))))) (bW D (va_A [(h0, .inr (10, (Value.int (q 0) :: Value.int (q 1) :: Value.int (q 2) :: Value.int (q 3) :: Value.int (q 4) :: Value.int (q 5) :: Value.int (q 6) :: Value.int (q 7) :: Value.ref (a 8) :: Value.ref (a 9) :: Value.ref (a 10) :: Value.ref (a 11) :: Value.ref (a 12) :: Value.ref (a 13) :: Value.int (q 14) :: Value.long v :: Value.long w :: Value.ref (a 17) :: Value.ref (a 18) :: Value.ref (a 19) :: Value.ref (a 20) :: Value.ref (a 21) :: Value.ref (a 22) :: Value.ref (a 23) :: Value.int (q 24) :: Value.ref (a 25) :: Value.int (q 26) :: Value.ref (a 27) :: Value.int (q 28) :: Value.int (q 29) :: Value.int (q 30) :: Value.int (q 31) :: Value.int (q 32) :: Value.int (q 33) :: Value.ref (a 34) :: Value.ref (a 35) :: Value.ref (a 36) :: Value.ref (a 37) :: Value.ref (a 38) :: Value.ref (a 39) :: Value.ref (a 40) :: Value.int (q 41) :: Value.ref (a 42) :: Value.int (q 43) :: Value.int (q 44) :: []))), ((a 34), .inl (T 0, 4, .inl f34)), ((a 35), .inl (T 0, 4, .inl f35)), ((a 36), .inl (T 1, 120, .inr (.inl f36))), ((a 37), .inl (T 3, 120, .inr (.inr (.inr (.inl f37)))))] sz) (fun (u : (Nat → Int64) × (Nat → UInt64)) => [(h0, .inr (10, (Value.int (q 0) :: Value.int (q 1) :: Value.int (q 2) :: Value.int (q 3) :: Value.int (q 4) :: Value.int (q 5) :: Value.int (q 6) :: Value.int (q 7) :: Value.ref (a 8) :: Value.ref (a 9) :: Value.ref (a 10) :: Value.ref (a 11) :: Value.ref (a 12) :: Value.ref (a 13) :: Value.int (q 14) :: Value.long v :: Value.long w :: Value.ref (a 17) :: Value.ref (a 18) :: Value.ref (a 19) :: Value.ref (a 20) :: Value.ref (a 21) :: Value.ref (a 22) :: Value.ref (a 23) :: Value.int (q 24) :: Value.ref (a 25) :: Value.int (q 26) :: Value.ref (a 27) :: Value.int (q 28) :: Value.int (q 29) :: Value.int (q 30) :: Value.int (q 31) :: Value.int (q 32) :: Value.int (q 33) :: Value.ref (a 34) :: Value.ref (a 35) :: Value.ref (a 36) :: Value.ref (a 37) :: Value.ref (a 38) :: Value.ref (a 39) :: Value.ref (a 40) :: Value.int (q 41) :: Value.ref (a 42) :: Value.int (q 43) :: Value.int (q 44) :: []))), ((a 34), .inl (T 0, 4, .inl f34)), ((a 35), .inl (T 0, 4, .inl f35)), ((a 36), .inl (T 1, 120, .inr (.inl u.1))), ((a 37), .inl (T 3, 120, .inr (.inr (.inr (.inl u.2)))))])) (va_A [(h0, .inr (10, (Value.int (q 0) :: Value.int (q 1) :: Value.int (q 2) :: Value.int (q 3) :: Value.int (q 4) :: Value.int (q 5) :: Value.int (q 6) :: Value.int (q 7) :: Value.ref (a 8) :: Value.ref (a 9) :: Value.ref (a 10) :: Value.ref (a 11) :: Value.ref (a 12) :: Value.ref (a 13) :: Value.int (q 14) :: Value.long v :: Value.long w :: Value.ref (a 17) :: Value.ref (a 18) :: Value.ref (a 19) :: Value.ref (a 20) :: Value.ref (a 21) :: Value.ref (a 22) :: Value.ref (a 23) :: Value.int (q 24) :: Value.ref (a 25) :: Value.int (q 26) :: Value.ref (a 27) :: Value.int (q 28) :: Value.int (q 29) :: Value.int (q 30) :: Value.int (q 31) :: Value.int (q 32) :: Value.int (q 33) :: Value.ref (a 34) :: Value.ref (a 35) :: Value.ref (a 36) :: Value.ref (a 37) :: Value.ref (a 38) :: Value.ref (a 39) :: Value.ref (a 40) :: Value.int (q 41) :: Value.ref (a 42) :: Value.int (q 43) :: Value.int (q 44) :: []))), ((a 34), .inl (T 0, 4, .inl f34)), ((a 35), .inl (T 0, 4, .inl f35)), ((a 36), .inl (T 1, 120, .inr (.inl f36))), ((a 37), .inl (T 3, 120, .inr (.inr (.inr (.inl f37)))))] sz)) 0 0 (va_A [(h0, .inr (10, (Value.int (q 0) :: Value.int (q 1) :: Value.int (q 2) :: Value.int (q 3) :: Value.int (q 4) :: Value.int (q 5) :: Value.int (q 6) :: Value.int (q 7) :: Value.ref (a 8) :: Value.ref (a 9) :: Value.ref (a 10) :: Value.ref (a 11) :: Value.ref (a 12) :: Value.ref (a 13) :: Value.int (q 14) :: Value.long v :: Value.long w :: Value.ref (a 17) :: Value.ref (a 18) :: Value.ref (a 19) :: Value.ref (a 20) :: Value.ref (a 21) :: Value.ref (a 22) :: Value.ref (a 23) :: Value.int (q 24) :: Value.ref (a 25) :: Value.int (q 26) :: Value.ref (a 27) :: Value.int (q 28) :: Value.int (q 29) :: Value.int (q 30) :: Value.int (q 31) :: Value.int (q 32) :: Value.int (q 33) :: Value.ref (a 34) :: Value.ref (a 35) :: Value.ref (a 36) :: Value.ref (a 37) :: Value.ref (a 38) :: Value.ref (a 39) :: Value.ref (a 40) :: Value.int (q 41) :: Value.ref (a 42) :: Value.int (q 43) :: Value.int (q 44) :: []))), ((a 34), .inl (T 0, 4, .inl f34)), ((a 35), .inl (T 0, 4, .inl f35)), ((a 36), .inl (T 1, 120, .inr (.inl f36))), ((a 37), .inl (T 3, 120, .inr (.inr (.inr (.inl f37)))))] sz) := by
  refine Met.ofW (cc := cX13_copy) (maxL := 8) (ret := (some .int)) (by decide +kernel) rfl ?_
  intro p e s m args below meth c s₁ B hml hv
  obtain ⟨rfl, hsz, hP, hE, hD0⟩ := hv
  have hx := B.exec
  have hb := B.bytes
  have hr := B.returns
  have hts := atoms_spec (ws := wsX13_copy) B.pre
  have hown : s.vm.findClass RX13 = some m.cls := findClass_of_methodNamed B.named
  have hlocks := B.notSynchronized
  subst hsz
  have hD := hD0.self (sz := s.heap.size)
  generalize hAe : va_A [(h0, .inr (10, (Value.int (q 0) :: Value.int (q 1) :: Value.int (q 2) :: Value.int (q 3) :: Value.int (q 4) :: Value.int (q 5) :: Value.int (q 6) :: Value.int (q 7) :: Value.ref (a 8) :: Value.ref (a 9) :: Value.ref (a 10) :: Value.ref (a 11) :: Value.ref (a 12) :: Value.ref (a 13) :: Value.int (q 14) :: Value.long v :: Value.long w :: Value.ref (a 17) :: Value.ref (a 18) :: Value.ref (a 19) :: Value.ref (a 20) :: Value.ref (a 21) :: Value.ref (a 22) :: Value.ref (a 23) :: Value.int (q 24) :: Value.ref (a 25) :: Value.int (q 26) :: Value.ref (a 27) :: Value.int (q 28) :: Value.int (q 29) :: Value.int (q 30) :: Value.int (q 31) :: Value.int (q 32) :: Value.int (q 33) :: Value.ref (a 34) :: Value.ref (a 35) :: Value.ref (a 36) :: Value.ref (a 37) :: Value.ref (a 38) :: Value.ref (a 39) :: Value.ref (a 40) :: Value.int (q 41) :: Value.ref (a 42) :: Value.int (q 43) :: Value.int (q 44) :: []))), ((a 34), .inl (T 0, 4, .inl f34)), ((a 35), .inl (T 0, 4, .inl f35)), ((a 36), .inl (T 1, 120, .inr (.inl f36))), ((a 37), .inl (T 3, 120, .inr (.inr (.inr (.inl f37)))))] s.heap.size = A at hD ⊢
  have hA : ∀ q : Nat, s.heap.size ≤ q → A q := fun q h => by rw [← hAe]; exact Or.inr h
  have hS : va_S A s.heap s.heap [] := va_S.rf
  have hP : va_P D vwCl [(h0, .inr (10, (Value.int (q 0) :: Value.int (q 1) :: Value.int (q 2) :: Value.int (q 3) :: Value.int (q 4) :: Value.int (q 5) :: Value.int (q 6) :: Value.int (q 7) :: Value.ref (a 8) :: Value.ref (a 9) :: Value.ref (a 10) :: Value.ref (a 11) :: Value.ref (a 12) :: Value.ref (a 13) :: Value.int (q 14) :: Value.long v :: Value.long w :: Value.ref (a 17) :: Value.ref (a 18) :: Value.ref (a 19) :: Value.ref (a 20) :: Value.ref (a 21) :: Value.ref (a 22) :: Value.ref (a 23) :: Value.int (q 24) :: Value.ref (a 25) :: Value.int (q 26) :: Value.ref (a 27) :: Value.int (q 28) :: Value.int (q 29) :: Value.int (q 30) :: Value.int (q 31) :: Value.int (q 32) :: Value.int (q 33) :: Value.ref (a 34) :: Value.ref (a 35) :: Value.ref (a 36) :: Value.ref (a 37) :: Value.ref (a 38) :: Value.ref (a 39) :: Value.ref (a 40) :: Value.int (q 41) :: Value.ref (a 42) :: Value.int (q 43) :: Value.int (q 44) :: []))), ((a 34), .inl (T 0, 4, .inl f34)), ((a 35), .inl (T 0, 4, .inl f35)), ((a 36), .inl (T 1, 120, .inr (.inl f36))), ((a 37), .inl (T 3, 120, .inr (.inr (.inr (.inl f37)))))] s.heap := hP
  have hl := lv_entry ([.ref h0, .int x1, .int x2, .int x3, .int x4, .int x5]) (n := 8) (Nat.le_of_ble_eq_true rfl)
  rw [lg_entry_eq]
  generalize (lg_sl ([.ref h0, .int x1, .int x2, .int x3, .int x4, .int x5]) ++ List.replicate (8 - (lg_sl ([.ref h0, .int x1, .int x2, .int x3, .int x4, .int x5])).length) Slot.unset).toArray = ls at hl ⊢
  have hl : lv_has ls 8 [(0, .ref h0), (1, .int x1), (2, .int x2), (3, .int x3), (4, .int x4), (5, .int x5)] := hl
  clear hD0
  refine lv_iload_n hx hb dX13_copy_0 rfl (lv_at hl 1 rfl) ?_
  refine vp_callSi (W.runS (As := [.int x1]) (rest := []) ⟨hx, hb, hml, hown, hts⟩ (c_X13_isSheet l D T x1) (va_cwS 1 hts gX13_copy_X13_isSheet rfl rfl rfl hs_X13_isSheet ⟨Nat.le_of_ble_eq_true rfl, Nat.le_of_ble_eq_true rfl⟩) (pR_S hP hE [] rfl) rfl rfl hl.1 rfl (lv_room (Nat.le_of_ble_eq_true rfl)) dX13_copy_1 ⟨Nat.le_of_ble_eq_true rfl, Nat.le_of_ble_eq_true rfl⟩) (fun r_1 hr_1 => ?_)
  rcases bool_post hr_1 with ⟨c_2, rfl⟩ | ⟨c_2, rfl⟩
  · refine lv_if_eq (tgt := 14) hx hb dX13_copy_4 (by decide +kernel) (fun c9 => absurd c9 (by decide +kernel)) (fun _ => ?_)
    refine lv_iload_n hx hb dX13_copy_7 rfl (lv_at hl 3 rfl) ?_
    refine vp_callSi (W.runS (As := [.int x3]) (rest := []) ⟨hx, hb, hml, hown, hts⟩ (c_X13_isSheet l D T x3) (va_cwS 1 hts gX13_copy_X13_isSheet rfl rfl rfl hs_X13_isSheet ⟨Nat.le_of_ble_eq_true rfl, Nat.le_of_ble_eq_true rfl⟩) (pR_S hP hE [] rfl) rfl rfl hl.1 rfl (lv_room (Nat.le_of_ble_eq_true rfl)) dX13_copy_8 ⟨Nat.le_of_ble_eq_true rfl, Nat.le_of_ble_eq_true rfl⟩) (fun r_3 hr_3 => ?_)
    rcases bool_post hr_3 with ⟨c_4, rfl⟩ | ⟨c_4, rfl⟩
    · refine lv_if_ne (tgt := 17) hx hb dX13_copy_11 (by decide +kernel) (fun _ => ?_) (fun c9 => absurd c9 (by decide +kernel))
      refine lv_aload_n hx hb dX13_copy_17 rfl (lv_at hl 0 rfl) ?_
      refine va_get (D := D) (ci := 10) (v := .ref (a 34)) (C := RX13) (T := TX13) (N := 45) hx hb hts in_X13_copy_X13 hown hE.1 hP 0 rfl rfl 34 (by decide +kernel) (hts (.fieldLink RX13 104 "ClauseBookModel" "sorts" "[I") (List.mem_of_getElem? (i := 1) rfl)) (fun _ h9 => h9) rfl dX13_copy_18 ?_
      refine lv_iload_n hx hb dX13_copy_21 rfl (lv_at hl 1 rfl) ?_
      refine va_iald hx hb hE.1 hP 1 0 rfl rfl (by rw [vp_in_iff]; first | omega | (subst_vars; omega)) dX13_copy_22 ?_
      refine lv_topi (fun z_5 ez_5 => ?_)
      have htz_5 : z_5.toInt = (f34 (x1.toNatClampNeg)).toInt := by rw [ez_5]
      refine lv_if_lt (tgt := 35) hx hb dX13_copy_23 (by decide +kernel) (fun c_6 => ?_) (fun c_6 => ?_)
      · rw [fa_lt] at c_6
        try rw [ti_0] at c_6
        refine lv_bipush (v := (-11)) hx hb dX13_copy_35 (by decide +kernel) ?_
        exact W.iret hx hb hr (fun t ht hW => ⟨⟨_, (f36, f37), rfl, (show (¬ ((0 ≤ x1.toInt ∧ x1.toInt ≤ 3) ∧ (0 ≤ x3.toInt ∧ x3.toInt ≤ 3)) → ((-11) : Int32).toInt = -2) ∧ ((0 ≤ x1.toInt ∧ x1.toInt ≤ 3) → (0 ≤ x3.toInt ∧ x3.toInt ≤ 3) → ((f34 (x1.toNatClampNeg)).toInt < 0 ∨ (f34 (x3.toNatClampNeg)).toInt < 0 → ((-11) : Int32).toInt = -11) ∧ (¬ ((f34 (x1.toNatClampNeg)).toInt < 0 ∨ (f34 (x3.toNatClampNeg)).toInt < 0) → (¬ (f34 (x1.toNatClampNeg)).toInt = (f34 (x3.toNatClampNeg)).toInt → ((-11) : Int32).toInt = -13) ∧ ((f34 (x1.toNatClampNeg)).toInt = (f34 (x3.toNatClampNeg)).toInt → ((0 ≤ x5.toInt ∧ 0 ≤ x2.toInt ∧ 0 ≤ x4.toInt ∧ x2.toInt + x5.toInt ≤ (f35 (x1.toNatClampNeg)).toInt ∧ x4.toInt + x5.toInt ≤ (f35 (x3.toNatClampNeg)).toInt) → ((-11) : Int32).toInt = x5.toInt) ∧ (¬ (0 ≤ x5.toInt ∧ 0 ≤ x2.toInt ∧ 0 ≤ x4.toInt ∧ x2.toInt + x5.toInt ≤ (f35 (x1.toNatClampNeg)).toInt ∧ x4.toInt + x5.toInt ≤ (f35 (x3.toNatClampNeg)).toInt) → ((-11) : Int32).toInt = -12)))) from (by have h9r : ((-11) : Int32).toInt = -11 := (by decide +kernel); omega)), by rw [ht]; exact hP.sub [0, 1, 2, 3, 4] rfl, hD.sub [0, 1, 2, 3, 4] (by decide +kernel) rfl⟩, hS.F ht⟩) hS.2.2 dX13_copy_37
      · rw [fa_lt] at c_6
        try rw [ti_0] at c_6
        refine lv_aload_n hx hb dX13_copy_26 rfl (lv_at hl 0 rfl) ?_
        refine va_get (D := D) (ci := 10) (v := .ref (a 34)) (C := RX13) (T := TX13) (N := 45) hx hb hts in_X13_copy_X13 hown hE.1 hP 0 rfl rfl 34 (by decide +kernel) (hts (.fieldLink RX13 104 "ClauseBookModel" "sorts" "[I") (List.mem_of_getElem? (i := 1) rfl)) (fun _ h9 => h9) rfl dX13_copy_27 ?_
        refine lv_iload_n hx hb dX13_copy_30 rfl (lv_at hl 3 rfl) ?_
        refine va_iald hx hb hE.1 hP 1 0 rfl rfl (by rw [vp_in_iff]; first | omega | (subst_vars; omega)) dX13_copy_31 ?_
        refine lv_topi (fun z_7 ez_7 => ?_)
        have htz_7 : z_7.toInt = (f34 (x3.toNatClampNeg)).toInt := by rw [ez_7]
        refine lv_if_ge (tgt := 38) hx hb dX13_copy_32 (by decide +kernel) (fun c_8 => ?_) (fun c_8 => ?_)
        · rw [fa_le] at c_8
          try rw [ti_0] at c_8
          refine lv_aload_n hx hb dX13_copy_38 rfl (lv_at hl 0 rfl) ?_
          refine va_get (D := D) (ci := 10) (v := .ref (a 34)) (C := RX13) (T := TX13) (N := 45) hx hb hts in_X13_copy_X13 hown hE.1 hP 0 rfl rfl 34 (by decide +kernel) (hts (.fieldLink RX13 104 "ClauseBookModel" "sorts" "[I") (List.mem_of_getElem? (i := 1) rfl)) (fun _ h9 => h9) rfl dX13_copy_39 ?_
          refine lv_iload_n hx hb dX13_copy_42 rfl (lv_at hl 1 rfl) ?_
          refine va_iald hx hb hE.1 hP 1 0 rfl rfl (by rw [vp_in_iff]; first | omega | (subst_vars; omega)) dX13_copy_43 ?_
          refine lv_topi (fun z_9 ez_9 => ?_)
          have htz_9 : z_9.toInt = (f34 (x1.toNatClampNeg)).toInt := by rw [ez_9]
          refine lv_aload_n hx hb dX13_copy_44 rfl (lv_at hl 0 rfl) ?_
          refine va_get (D := D) (ci := 10) (v := .ref (a 34)) (C := RX13) (T := TX13) (N := 45) hx hb hts in_X13_copy_X13 hown hE.1 hP 0 rfl rfl 34 (by decide +kernel) (hts (.fieldLink RX13 104 "ClauseBookModel" "sorts" "[I") (List.mem_of_getElem? (i := 1) rfl)) (fun _ h9 => h9) rfl dX13_copy_45 ?_
          refine lv_iload_n hx hb dX13_copy_48 rfl (lv_at hl 3 rfl) ?_
          refine va_iald hx hb hE.1 hP 1 0 rfl rfl (by rw [vp_in_iff]; first | omega | (subst_vars; omega)) dX13_copy_49 ?_
          refine lv_topi (fun z_10 ez_10 => ?_)
          have htz_10 : z_10.toInt = (f34 (x3.toNatClampNeg)).toInt := by rw [ez_10]
          refine lv_icmp_eq (tgt := 56) hx hb dX13_copy_50 (by decide +kernel) (fun c_11 => ?_) (fun c_11 => ?_)
          · rw [fa_eq] at c_11
            refine lv_iload hx hb dX13_copy_56 (lv_at hl 5 rfl) ?_
            refine lv_if_lt (tgt := 97) hx hb dX13_copy_58 (by decide +kernel) (fun c_12 => ?_) (fun c_12 => ?_)
            · rw [fa_lt] at c_12
              try rw [ti_0] at c_12
              refine lv_bipush (v := (-12)) hx hb dX13_copy_97 (by decide +kernel) ?_
              exact W.iret hx hb hr (fun t ht hW => ⟨⟨_, (f36, f37), rfl, (show (¬ ((0 ≤ x1.toInt ∧ x1.toInt ≤ 3) ∧ (0 ≤ x3.toInt ∧ x3.toInt ≤ 3)) → ((-12) : Int32).toInt = -2) ∧ ((0 ≤ x1.toInt ∧ x1.toInt ≤ 3) → (0 ≤ x3.toInt ∧ x3.toInt ≤ 3) → ((f34 (x1.toNatClampNeg)).toInt < 0 ∨ (f34 (x3.toNatClampNeg)).toInt < 0 → ((-12) : Int32).toInt = -11) ∧ (¬ ((f34 (x1.toNatClampNeg)).toInt < 0 ∨ (f34 (x3.toNatClampNeg)).toInt < 0) → (¬ (f34 (x1.toNatClampNeg)).toInt = (f34 (x3.toNatClampNeg)).toInt → ((-12) : Int32).toInt = -13) ∧ ((f34 (x1.toNatClampNeg)).toInt = (f34 (x3.toNatClampNeg)).toInt → ((0 ≤ x5.toInt ∧ 0 ≤ x2.toInt ∧ 0 ≤ x4.toInt ∧ x2.toInt + x5.toInt ≤ (f35 (x1.toNatClampNeg)).toInt ∧ x4.toInt + x5.toInt ≤ (f35 (x3.toNatClampNeg)).toInt) → ((-12) : Int32).toInt = x5.toInt) ∧ (¬ (0 ≤ x5.toInt ∧ 0 ≤ x2.toInt ∧ 0 ≤ x4.toInt ∧ x2.toInt + x5.toInt ≤ (f35 (x1.toNatClampNeg)).toInt ∧ x4.toInt + x5.toInt ≤ (f35 (x3.toNatClampNeg)).toInt) → ((-12) : Int32).toInt = -12)))) from (by have h9r : ((-12) : Int32).toInt = -12 := (by decide +kernel); omega)), by rw [ht]; exact hP.sub [0, 1, 2, 3, 4] rfl, hD.sub [0, 1, 2, 3, 4] (by decide +kernel) rfl⟩, hS.F ht⟩) hS.2.2 dX13_copy_99
            · rw [fa_lt] at c_12
              try rw [ti_0] at c_12
              refine lv_iload_n hx hb dX13_copy_61 rfl (lv_at hl 2 rfl) ?_
              refine lv_if_lt (tgt := 97) hx hb dX13_copy_62 (by decide +kernel) (fun c_13 => ?_) (fun c_13 => ?_)
              · rw [fa_lt] at c_13
                try rw [ti_0] at c_13
                refine lv_bipush (v := (-12)) hx hb dX13_copy_97 (by decide +kernel) ?_
                exact W.iret hx hb hr (fun t ht hW => ⟨⟨_, (f36, f37), rfl, (show (¬ ((0 ≤ x1.toInt ∧ x1.toInt ≤ 3) ∧ (0 ≤ x3.toInt ∧ x3.toInt ≤ 3)) → ((-12) : Int32).toInt = -2) ∧ ((0 ≤ x1.toInt ∧ x1.toInt ≤ 3) → (0 ≤ x3.toInt ∧ x3.toInt ≤ 3) → ((f34 (x1.toNatClampNeg)).toInt < 0 ∨ (f34 (x3.toNatClampNeg)).toInt < 0 → ((-12) : Int32).toInt = -11) ∧ (¬ ((f34 (x1.toNatClampNeg)).toInt < 0 ∨ (f34 (x3.toNatClampNeg)).toInt < 0) → (¬ (f34 (x1.toNatClampNeg)).toInt = (f34 (x3.toNatClampNeg)).toInt → ((-12) : Int32).toInt = -13) ∧ ((f34 (x1.toNatClampNeg)).toInt = (f34 (x3.toNatClampNeg)).toInt → ((0 ≤ x5.toInt ∧ 0 ≤ x2.toInt ∧ 0 ≤ x4.toInt ∧ x2.toInt + x5.toInt ≤ (f35 (x1.toNatClampNeg)).toInt ∧ x4.toInt + x5.toInt ≤ (f35 (x3.toNatClampNeg)).toInt) → ((-12) : Int32).toInt = x5.toInt) ∧ (¬ (0 ≤ x5.toInt ∧ 0 ≤ x2.toInt ∧ 0 ≤ x4.toInt ∧ x2.toInt + x5.toInt ≤ (f35 (x1.toNatClampNeg)).toInt ∧ x4.toInt + x5.toInt ≤ (f35 (x3.toNatClampNeg)).toInt) → ((-12) : Int32).toInt = -12)))) from (by have h9r : ((-12) : Int32).toInt = -12 := (by decide +kernel); omega)), by rw [ht]; exact hP.sub [0, 1, 2, 3, 4] rfl, hD.sub [0, 1, 2, 3, 4] (by decide +kernel) rfl⟩, hS.F ht⟩) hS.2.2 dX13_copy_99
              · rw [fa_lt] at c_13
                try rw [ti_0] at c_13
                refine lv_iload hx hb dX13_copy_65 (lv_at hl 4 rfl) ?_
                refine lv_if_lt (tgt := 97) hx hb dX13_copy_67 (by decide +kernel) (fun c_14 => ?_) (fun c_14 => ?_)
                · rw [fa_lt] at c_14
                  try rw [ti_0] at c_14
                  refine lv_bipush (v := (-12)) hx hb dX13_copy_97 (by decide +kernel) ?_
                  exact W.iret hx hb hr (fun t ht hW => ⟨⟨_, (f36, f37), rfl, (show (¬ ((0 ≤ x1.toInt ∧ x1.toInt ≤ 3) ∧ (0 ≤ x3.toInt ∧ x3.toInt ≤ 3)) → ((-12) : Int32).toInt = -2) ∧ ((0 ≤ x1.toInt ∧ x1.toInt ≤ 3) → (0 ≤ x3.toInt ∧ x3.toInt ≤ 3) → ((f34 (x1.toNatClampNeg)).toInt < 0 ∨ (f34 (x3.toNatClampNeg)).toInt < 0 → ((-12) : Int32).toInt = -11) ∧ (¬ ((f34 (x1.toNatClampNeg)).toInt < 0 ∨ (f34 (x3.toNatClampNeg)).toInt < 0) → (¬ (f34 (x1.toNatClampNeg)).toInt = (f34 (x3.toNatClampNeg)).toInt → ((-12) : Int32).toInt = -13) ∧ ((f34 (x1.toNatClampNeg)).toInt = (f34 (x3.toNatClampNeg)).toInt → ((0 ≤ x5.toInt ∧ 0 ≤ x2.toInt ∧ 0 ≤ x4.toInt ∧ x2.toInt + x5.toInt ≤ (f35 (x1.toNatClampNeg)).toInt ∧ x4.toInt + x5.toInt ≤ (f35 (x3.toNatClampNeg)).toInt) → ((-12) : Int32).toInt = x5.toInt) ∧ (¬ (0 ≤ x5.toInt ∧ 0 ≤ x2.toInt ∧ 0 ≤ x4.toInt ∧ x2.toInt + x5.toInt ≤ (f35 (x1.toNatClampNeg)).toInt ∧ x4.toInt + x5.toInt ≤ (f35 (x3.toNatClampNeg)).toInt) → ((-12) : Int32).toInt = -12)))) from (by have h9r : ((-12) : Int32).toInt = -12 := (by decide +kernel); omega)), by rw [ht]; exact hP.sub [0, 1, 2, 3, 4] rfl, hD.sub [0, 1, 2, 3, 4] (by decide +kernel) rfl⟩, hS.F ht⟩) hS.2.2 dX13_copy_99
                · rw [fa_lt] at c_14
                  try rw [ti_0] at c_14
                  refine lv_iload hx hb dX13_copy_70 (lv_at hl 5 rfl) ?_
                  refine lv_aload_n hx hb dX13_copy_72 rfl (lv_at hl 0 rfl) ?_
                  refine va_get (D := D) (ci := 10) (v := .ref (a 35)) (C := RX13) (T := TX13) (N := 45) hx hb hts in_X13_copy_X13 hown hE.1 hP 0 rfl rfl 35 (by decide +kernel) (hts (.fieldLink RX13 107 "ClauseBookModel" "sizes" "[I") (List.mem_of_getElem? (i := 2) rfl)) (fun _ h9 => h9) rfl dX13_copy_73 ?_
                  refine lv_iload_n hx hb dX13_copy_76 rfl (lv_at hl 1 rfl) ?_
                  refine va_iald hx hb hE.1 hP 2 0 rfl rfl (by rw [vp_in_iff]; first | omega | (subst_vars; omega)) dX13_copy_77 ?_
                  refine lv_topi (fun z_15 ez_15 => ?_)
                  have htz_15 : z_15.toInt = (f35 (x1.toNatClampNeg)).toInt := by rw [ez_15]
                  have hbz_15 : 0 ≤ z_15.toInt ∧ z_15.toInt ≤ 30 := by rw [ez_15]; exact hsz _ (tn3 (by omega) (by omega))
                  have hsz_15 : (z_15 - x2).toInt = z_15.toInt - x2.toInt := fb_subI (by have h8 := fb_rng x2; omega) (by have h8 := fb_rng x2; omega)
                  refine lv_iload_n hx hb dX13_copy_78 rfl (lv_at hl 2 rfl) ?_
                  refine lv_isub hx hb dX13_copy_79 ?_
                  refine lv_icmp_gt (tgt := 97) hx hb dX13_copy_80 (by decide +kernel) (fun c_16 => ?_) (fun c_16 => ?_)
                  · rw [fa_lt] at c_16
                    refine lv_bipush (v := (-12)) hx hb dX13_copy_97 (by decide +kernel) ?_
                    exact W.iret hx hb hr (fun t ht hW => ⟨⟨_, (f36, f37), rfl, (show (¬ ((0 ≤ x1.toInt ∧ x1.toInt ≤ 3) ∧ (0 ≤ x3.toInt ∧ x3.toInt ≤ 3)) → ((-12) : Int32).toInt = -2) ∧ ((0 ≤ x1.toInt ∧ x1.toInt ≤ 3) → (0 ≤ x3.toInt ∧ x3.toInt ≤ 3) → ((f34 (x1.toNatClampNeg)).toInt < 0 ∨ (f34 (x3.toNatClampNeg)).toInt < 0 → ((-12) : Int32).toInt = -11) ∧ (¬ ((f34 (x1.toNatClampNeg)).toInt < 0 ∨ (f34 (x3.toNatClampNeg)).toInt < 0) → (¬ (f34 (x1.toNatClampNeg)).toInt = (f34 (x3.toNatClampNeg)).toInt → ((-12) : Int32).toInt = -13) ∧ ((f34 (x1.toNatClampNeg)).toInt = (f34 (x3.toNatClampNeg)).toInt → ((0 ≤ x5.toInt ∧ 0 ≤ x2.toInt ∧ 0 ≤ x4.toInt ∧ x2.toInt + x5.toInt ≤ (f35 (x1.toNatClampNeg)).toInt ∧ x4.toInt + x5.toInt ≤ (f35 (x3.toNatClampNeg)).toInt) → ((-12) : Int32).toInt = x5.toInt) ∧ (¬ (0 ≤ x5.toInt ∧ 0 ≤ x2.toInt ∧ 0 ≤ x4.toInt ∧ x2.toInt + x5.toInt ≤ (f35 (x1.toNatClampNeg)).toInt ∧ x4.toInt + x5.toInt ≤ (f35 (x3.toNatClampNeg)).toInt) → ((-12) : Int32).toInt = -12)))) from (by have h9r : ((-12) : Int32).toInt = -12 := (by decide +kernel); omega)), by rw [ht]; exact hP.sub [0, 1, 2, 3, 4] rfl, hD.sub [0, 1, 2, 3, 4] (by decide +kernel) rfl⟩, hS.F ht⟩) hS.2.2 dX13_copy_99
                  · rw [fa_lt] at c_16
                    refine lv_iload hx hb dX13_copy_83 (lv_at hl 5 rfl) ?_
                    refine lv_aload_n hx hb dX13_copy_85 rfl (lv_at hl 0 rfl) ?_
                    refine va_get (D := D) (ci := 10) (v := .ref (a 35)) (C := RX13) (T := TX13) (N := 45) hx hb hts in_X13_copy_X13 hown hE.1 hP 0 rfl rfl 35 (by decide +kernel) (hts (.fieldLink RX13 107 "ClauseBookModel" "sizes" "[I") (List.mem_of_getElem? (i := 2) rfl)) (fun _ h9 => h9) rfl dX13_copy_86 ?_
                    refine lv_iload_n hx hb dX13_copy_89 rfl (lv_at hl 3 rfl) ?_
                    refine va_iald hx hb hE.1 hP 2 0 rfl rfl (by rw [vp_in_iff]; first | omega | (subst_vars; omega)) dX13_copy_90 ?_
                    refine lv_topi (fun z_17 ez_17 => ?_)
                    have htz_17 : z_17.toInt = (f35 (x3.toNatClampNeg)).toInt := by rw [ez_17]
                    have hbz_17 : 0 ≤ z_17.toInt ∧ z_17.toInt ≤ 30 := by rw [ez_17]; exact hsz _ (tn3 (by omega) (by omega))
                    have hsz_17 : (z_17 - x4).toInt = z_17.toInt - x4.toInt := fb_subI (by have h8 := fb_rng x4; omega) (by have h8 := fb_rng x4; omega)
                    refine lv_iload hx hb dX13_copy_91 (lv_at hl 4 rfl) ?_
                    refine lv_isub hx hb dX13_copy_93 ?_
                    refine lv_icmp_le (tgt := 100) hx hb dX13_copy_94 (by decide +kernel) (fun c_18 => ?_) (fun c_18 => ?_)
                    · rw [fa_le] at c_18
                      refine lv_iconst (v := 0) hx hb dX13_copy_100 (by decide +kernel) ?_
                      refine lv_istore (lv' := [(6, .int 0), (0, .ref h0), (1, .int x1), (2, .int x2), (3, .int x3), (4, .int x4), (5, .int x5)]) hx hb dX13_copy_101 hl (by decide +kernel) rfl (fun ls hl => ?_)
                      refine loopW (σ := (Int32) × (Nat → Int64) × (Nat → UInt64)) (fun x9 ls H locs => lv_has ls 8 [(6, .int x9.1), (0, .ref h0), (1, .int x1), (2, .int x2), (3, .int x3), (4, .int x4), (5, .int x5)] ∧ va_P D vwCl [(h0, .inr (10, (Value.int (q 0) :: Value.int (q 1) :: Value.int (q 2) :: Value.int (q 3) :: Value.int (q 4) :: Value.int (q 5) :: Value.int (q 6) :: Value.int (q 7) :: Value.ref (a 8) :: Value.ref (a 9) :: Value.ref (a 10) :: Value.ref (a 11) :: Value.ref (a 12) :: Value.ref (a 13) :: Value.int (q 14) :: Value.long v :: Value.long w :: Value.ref (a 17) :: Value.ref (a 18) :: Value.ref (a 19) :: Value.ref (a 20) :: Value.ref (a 21) :: Value.ref (a 22) :: Value.ref (a 23) :: Value.int (q 24) :: Value.ref (a 25) :: Value.int (q 26) :: Value.ref (a 27) :: Value.int (q 28) :: Value.int (q 29) :: Value.int (q 30) :: Value.int (q 31) :: Value.int (q 32) :: Value.int (q 33) :: Value.ref (a 34) :: Value.ref (a 35) :: Value.ref (a 36) :: Value.ref (a 37) :: Value.ref (a 38) :: Value.ref (a 39) :: Value.ref (a 40) :: Value.int (q 41) :: Value.ref (a 42) :: Value.int (q 43) :: Value.int (q 44) :: []))), ((a 34), .inl (T 0, 4, .inl f34)), ((a 35), .inl (T 0, 4, .inl f35)), ((a 36), .inl (T 1, 120, .inr (.inl x9.2.1))), ((a 37), .inl (T 3, 120, .inr (.inr (.inr (.inl x9.2.2)))))] H ∧ va_D A [(h0, .inr (10, (Value.int (q 0) :: Value.int (q 1) :: Value.int (q 2) :: Value.int (q 3) :: Value.int (q 4) :: Value.int (q 5) :: Value.int (q 6) :: Value.int (q 7) :: Value.ref (a 8) :: Value.ref (a 9) :: Value.ref (a 10) :: Value.ref (a 11) :: Value.ref (a 12) :: Value.ref (a 13) :: Value.int (q 14) :: Value.long v :: Value.long w :: Value.ref (a 17) :: Value.ref (a 18) :: Value.ref (a 19) :: Value.ref (a 20) :: Value.ref (a 21) :: Value.ref (a 22) :: Value.ref (a 23) :: Value.int (q 24) :: Value.ref (a 25) :: Value.int (q 26) :: Value.ref (a 27) :: Value.int (q 28) :: Value.int (q 29) :: Value.int (q 30) :: Value.int (q 31) :: Value.int (q 32) :: Value.int (q 33) :: Value.ref (a 34) :: Value.ref (a 35) :: Value.ref (a 36) :: Value.ref (a 37) :: Value.ref (a 38) :: Value.ref (a 39) :: Value.ref (a 40) :: Value.int (q 41) :: Value.ref (a 42) :: Value.int (q 43) :: Value.int (q 44) :: []))), ((a 34), .inl (T 0, 4, .inl f34)), ((a 35), .inl (T 0, 4, .inl f35)), ((a 36), .inl (T 1, 120, .inr (.inl x9.2.1))), ((a 37), .inl (T 3, 120, .inr (.inr (.inr (.inl x9.2.2)))))] ∧ va_S A s.heap H locs ∧ (0 ≤ x9.1.toInt)) (fun x9 => (x5.toInt - x9.1.toInt).toNat) (fun x9 ls H locs hI ih => ?_) (0, f36, f37) ls ⟨lv_sub hl [0, 1, 2, 3, 4, 5, 6] rfl, hP.sub [0, 1, 2, 3, 4] rfl, hD.sub [0, 1, 2, 3, 4] (by decide +kernel) rfl, hS, (by (try dsimp only); decide)⟩
                      obtain ⟨kk, g36, g37⟩ := x9
                      obtain ⟨hl, hP, hD, hS, hinv⟩ := hI
                      have hl : lv_has ls 8 [(6, .int kk), (0, .ref h0), (1, .int x1), (2, .int x2), (3, .int x3), (4, .int x4), (5, .int x5)] := hl
                      have hP : va_P D vwCl [(h0, .inr (10, (Value.int (q 0) :: Value.int (q 1) :: Value.int (q 2) :: Value.int (q 3) :: Value.int (q 4) :: Value.int (q 5) :: Value.int (q 6) :: Value.int (q 7) :: Value.ref (a 8) :: Value.ref (a 9) :: Value.ref (a 10) :: Value.ref (a 11) :: Value.ref (a 12) :: Value.ref (a 13) :: Value.int (q 14) :: Value.long v :: Value.long w :: Value.ref (a 17) :: Value.ref (a 18) :: Value.ref (a 19) :: Value.ref (a 20) :: Value.ref (a 21) :: Value.ref (a 22) :: Value.ref (a 23) :: Value.int (q 24) :: Value.ref (a 25) :: Value.int (q 26) :: Value.ref (a 27) :: Value.int (q 28) :: Value.int (q 29) :: Value.int (q 30) :: Value.int (q 31) :: Value.int (q 32) :: Value.int (q 33) :: Value.ref (a 34) :: Value.ref (a 35) :: Value.ref (a 36) :: Value.ref (a 37) :: Value.ref (a 38) :: Value.ref (a 39) :: Value.ref (a 40) :: Value.int (q 41) :: Value.ref (a 42) :: Value.int (q 43) :: Value.int (q 44) :: []))), ((a 34), .inl (T 0, 4, .inl f34)), ((a 35), .inl (T 0, 4, .inl f35)), ((a 36), .inl (T 1, 120, .inr (.inl g36))), ((a 37), .inl (T 3, 120, .inr (.inr (.inr (.inl g37)))))] H := hP
                      have hD : va_D A [(h0, .inr (10, (Value.int (q 0) :: Value.int (q 1) :: Value.int (q 2) :: Value.int (q 3) :: Value.int (q 4) :: Value.int (q 5) :: Value.int (q 6) :: Value.int (q 7) :: Value.ref (a 8) :: Value.ref (a 9) :: Value.ref (a 10) :: Value.ref (a 11) :: Value.ref (a 12) :: Value.ref (a 13) :: Value.int (q 14) :: Value.long v :: Value.long w :: Value.ref (a 17) :: Value.ref (a 18) :: Value.ref (a 19) :: Value.ref (a 20) :: Value.ref (a 21) :: Value.ref (a 22) :: Value.ref (a 23) :: Value.int (q 24) :: Value.ref (a 25) :: Value.int (q 26) :: Value.ref (a 27) :: Value.int (q 28) :: Value.int (q 29) :: Value.int (q 30) :: Value.int (q 31) :: Value.int (q 32) :: Value.int (q 33) :: Value.ref (a 34) :: Value.ref (a 35) :: Value.ref (a 36) :: Value.ref (a 37) :: Value.ref (a 38) :: Value.ref (a 39) :: Value.ref (a 40) :: Value.int (q 41) :: Value.ref (a 42) :: Value.int (q 43) :: Value.int (q 44) :: []))), ((a 34), .inl (T 0, 4, .inl f34)), ((a 35), .inl (T 0, 4, .inl f35)), ((a 36), .inl (T 1, 120, .inr (.inl g36))), ((a 37), .inl (T 3, 120, .inr (.inr (.inr (.inl g37)))))] := hD
                      have hinv : 0 ≤ kk.toInt := hinv
                      have h30x1 : (30 * x1).toInt = 30 * x1.toInt := by rw [fb_mulI (by rw [ti_30]; omega) (by rw [ti_30]; omega), ti_30]
                      have hAx1 : ((30 * x1) + x2).toInt = 30 * x1.toInt + x2.toInt := by rw [fb_addI (by omega) (by omega), h30x1]
                      have h30x3 : (30 * x3).toInt = 30 * x3.toInt := by rw [fb_mulI (by rw [ti_30]; omega) (by rw [ti_30]; omega), ti_30]
                      have hAx3 : ((30 * x3) + x4).toInt = 30 * x3.toInt + x4.toInt := by rw [fb_addI (by omega) (by omega), h30x3]
                      refine lv_iload hx hb dX13_copy_103 (lv_at hl 0 rfl) ?_
                      refine lv_iload hx hb dX13_copy_105 (lv_at hl 6 rfl) ?_
                      refine lv_icmp_ge (tgt := 194) hx hb dX13_copy_107 (by decide +kernel) (fun c_19 => ?_) (fun c_19 => ?_)
                      · rw [fa_le] at c_19
                        refine lv_iload hx hb dX13_copy_194 (lv_at hl 6 rfl) ?_
                        exact W.iret hx hb hr (fun t ht hW => ⟨⟨_, (g36, g37), rfl, (show (¬ ((0 ≤ x1.toInt ∧ x1.toInt ≤ 3) ∧ (0 ≤ x3.toInt ∧ x3.toInt ≤ 3)) → x5.toInt = -2) ∧ ((0 ≤ x1.toInt ∧ x1.toInt ≤ 3) → (0 ≤ x3.toInt ∧ x3.toInt ≤ 3) → ((f34 (x1.toNatClampNeg)).toInt < 0 ∨ (f34 (x3.toNatClampNeg)).toInt < 0 → x5.toInt = -11) ∧ (¬ ((f34 (x1.toNatClampNeg)).toInt < 0 ∨ (f34 (x3.toNatClampNeg)).toInt < 0) → (¬ (f34 (x1.toNatClampNeg)).toInt = (f34 (x3.toNatClampNeg)).toInt → x5.toInt = -13) ∧ ((f34 (x1.toNatClampNeg)).toInt = (f34 (x3.toNatClampNeg)).toInt → ((0 ≤ x5.toInt ∧ 0 ≤ x2.toInt ∧ 0 ≤ x4.toInt ∧ x2.toInt + x5.toInt ≤ (f35 (x1.toNatClampNeg)).toInt ∧ x4.toInt + x5.toInt ≤ (f35 (x3.toNatClampNeg)).toInt) → x5.toInt = x5.toInt) ∧ (¬ (0 ≤ x5.toInt ∧ 0 ≤ x2.toInt ∧ 0 ≤ x4.toInt ∧ x2.toInt + x5.toInt ≤ (f35 (x1.toNatClampNeg)).toInt ∧ x4.toInt + x5.toInt ≤ (f35 (x3.toNatClampNeg)).toInt) → x5.toInt = -12)))) from (by omega)), by rw [ht]; exact hP.sub [0, 1, 2, 3, 4] rfl, hD.sub [0, 1, 2, 3, 4] (by decide +kernel) rfl⟩, hS.F ht⟩) hS.2.2 dX13_copy_196
                      · rw [fa_le] at c_19
                        refine lv_iload_n hx hb dX13_copy_110 rfl (lv_at hl 3 rfl) ?_
                        refine lv_iload hx hb dX13_copy_111 (lv_at hl 5 rfl) ?_
                        refine lv_icmp_le (tgt := 121) hx hb dX13_copy_113 (by decide +kernel) (fun c_20 => ?_) (fun c_20 => ?_)
                        · rw [fa_le] at c_20
                          refine lv_iload hx hb dX13_copy_121 (lv_at hl 6 rfl) ?_
                          refine lv_iconst (v := 1) hx hb dX13_copy_123 (by decide +kernel) ?_
                          refine lv_isub hx hb dX13_copy_124 ?_
                          refine lv_iload hx hb dX13_copy_125 (lv_at hl 0 rfl) ?_
                          refine lv_isub hx hb dX13_copy_127 ?_
                          refine lv_topi (fun z_21 ez_21 => ?_)
                          refine lv_istore (lv' := [(7, .int z_21), (6, .int kk), (0, .ref h0), (1, .int x1), (2, .int x2), (3, .int x3), (4, .int x4), (5, .int x5)]) hx hb dX13_copy_128 hl (by decide +kernel) rfl (fun ls hl => ?_)
                          have hz9 : z_21.toInt = x5.toInt - 1 - kk.toInt := by
                            have h1 := dec1 (i := x5) (by omega)
                            rw [ez_21, fb_subI (by omega) (by omega), h1]
                          have hBx1 : (((30 * x1) + x2) + z_21).toInt = 30 * x1.toInt + x2.toInt + z_21.toInt := by rw [fb_addI (by omega) (by omega), hAx1]
                          have hBx3 : (((30 * x3) + x4) + z_21).toInt = 30 * x3.toInt + x4.toInt + z_21.toInt := by rw [fb_addI (by omega) (by omega), hAx3]
                          refine lv_aload_n hx hb dX13_copy_130 rfl (lv_at hl 2 rfl) ?_
                          refine va_get (D := D) (ci := 10) (v := .ref (a 36)) (C := RX13) (T := TX13) (N := 45) hx hb hts in_X13_copy_X13 hown hE.1 hP 0 rfl rfl 36 (by decide +kernel) (hts (.fieldLink RX13 110 "ClauseBookModel" "whole" "[J") (List.mem_of_getElem? (i := 3) rfl)) (fun _ h9 => h9) rfl dX13_copy_131 ?_
                          refine lv_bipush (v := 30) hx hb dX13_copy_134 (by decide +kernel) ?_
                          refine lv_iload_n hx hb dX13_copy_136 rfl (lv_at hl 5 rfl) ?_
                          refine lv_imul hx hb dX13_copy_137 ?_
                          refine lv_iload hx hb dX13_copy_138 (lv_at hl 6 rfl) ?_
                          refine lv_iadd hx hb dX13_copy_140 ?_
                          refine lv_iload hx hb dX13_copy_141 (lv_at hl 0 rfl) ?_
                          refine lv_iadd hx hb dX13_copy_143 ?_
                          refine lv_aload_n hx hb dX13_copy_144 rfl (lv_at hl 2 rfl) ?_
                          refine va_get (D := D) (ci := 10) (v := .ref (a 36)) (C := RX13) (T := TX13) (N := 45) hx hb hts in_X13_copy_X13 hown hE.1 hP 0 rfl rfl 36 (by decide +kernel) (hts (.fieldLink RX13 110 "ClauseBookModel" "whole" "[J") (List.mem_of_getElem? (i := 3) rfl)) (fun _ h9 => h9) rfl dX13_copy_145 ?_
                          refine lv_bipush (v := 30) hx hb dX13_copy_148 (by decide +kernel) ?_
                          refine lv_iload_n hx hb dX13_copy_150 rfl (lv_at hl 3 rfl) ?_
                          refine lv_imul hx hb dX13_copy_151 ?_
                          refine lv_iload_n hx hb dX13_copy_152 rfl (lv_at hl 4 rfl) ?_
                          refine lv_iadd hx hb dX13_copy_153 ?_
                          refine lv_iload hx hb dX13_copy_154 (lv_at hl 0 rfl) ?_
                          refine lv_iadd hx hb dX13_copy_156 ?_
                          refine va_lald hx hb hE.1 hP 3 1 rfl rfl (by rw [vp_in_iff]; first | omega | (subst_vars; omega)) dX13_copy_157 ?_
                          refine lv_topl (fun z_22 ez_22 => ?_)
                          refine va_last hx hb hE.1 hP hD hS 3 1 rfl rfl (by rw [vp_in_iff]; first | omega | (subst_vars; omega)) dX13_copy_158 (fun H locs hP hD hS => ?_)
                          obtain ⟨hP, hD⟩ := wPD [(h0, .inr (10, (Value.int (q 0) :: Value.int (q 1) :: Value.int (q 2) :: Value.int (q 3) :: Value.int (q 4) :: Value.int (q 5) :: Value.int (q 6) :: Value.int (q 7) :: Value.ref (a 8) :: Value.ref (a 9) :: Value.ref (a 10) :: Value.ref (a 11) :: Value.ref (a 12) :: Value.ref (a 13) :: Value.int (q 14) :: Value.long v :: Value.long w :: Value.ref (a 17) :: Value.ref (a 18) :: Value.ref (a 19) :: Value.ref (a 20) :: Value.ref (a 21) :: Value.ref (a 22) :: Value.ref (a 23) :: Value.int (q 24) :: Value.ref (a 25) :: Value.int (q 26) :: Value.ref (a 27) :: Value.int (q 28) :: Value.int (q 29) :: Value.int (q 30) :: Value.int (q 31) :: Value.int (q 32) :: Value.int (q 33) :: Value.ref (a 34) :: Value.ref (a 35) :: Value.ref (a 36) :: Value.ref (a 37) :: Value.ref (a 38) :: Value.ref (a 39) :: Value.ref (a 40) :: Value.int (q 41) :: Value.ref (a 42) :: Value.int (q 43) :: Value.int (q 44) :: []))), ((a 34), .inl (T 0, 4, .inl f34)), ((a 35), .inl (T 0, 4, .inl f35)), ((a 36), .inl (T 1, 120, .inr (.inl (vp_updL g36 ((((30 * x3) + x4) + z_21).toNatClampNeg) z_22)))), ((a 37), .inl (T 3, 120, .inr (.inr (.inr (.inl g37)))))] hP hD rfl
                          refine lv_aload_n hx hb dX13_copy_159 rfl (lv_at hl 2 rfl) ?_
                          refine va_get (D := D) (ci := 10) (v := .ref (a 37)) (C := RX13) (T := TX13) (N := 45) hx hb hts in_X13_copy_X13 hown hE.1 hP 0 rfl rfl 37 (by decide +kernel) (hts (.fieldLink RX13 113 "ClauseBookModel" "host" "[D") (List.mem_of_getElem? (i := 4) rfl)) (fun _ h9 => h9) rfl dX13_copy_160 ?_
                          refine lv_bipush (v := 30) hx hb dX13_copy_163 (by decide +kernel) ?_
                          refine lv_iload_n hx hb dX13_copy_165 rfl (lv_at hl 5 rfl) ?_
                          refine lv_imul hx hb dX13_copy_166 ?_
                          refine lv_iload hx hb dX13_copy_167 (lv_at hl 6 rfl) ?_
                          refine lv_iadd hx hb dX13_copy_169 ?_
                          refine lv_iload hx hb dX13_copy_170 (lv_at hl 0 rfl) ?_
                          refine lv_iadd hx hb dX13_copy_172 ?_
                          refine lv_aload_n hx hb dX13_copy_173 rfl (lv_at hl 2 rfl) ?_
                          refine va_get (D := D) (ci := 10) (v := .ref (a 37)) (C := RX13) (T := TX13) (N := 45) hx hb hts in_X13_copy_X13 hown hE.1 hP 0 rfl rfl 37 (by decide +kernel) (hts (.fieldLink RX13 113 "ClauseBookModel" "host" "[D") (List.mem_of_getElem? (i := 4) rfl)) (fun _ h9 => h9) rfl dX13_copy_174 ?_
                          refine lv_bipush (v := 30) hx hb dX13_copy_177 (by decide +kernel) ?_
                          refine lv_iload_n hx hb dX13_copy_179 rfl (lv_at hl 3 rfl) ?_
                          refine lv_imul hx hb dX13_copy_180 ?_
                          refine lv_iload_n hx hb dX13_copy_181 rfl (lv_at hl 4 rfl) ?_
                          refine lv_iadd hx hb dX13_copy_182 ?_
                          refine lv_iload hx hb dX13_copy_183 (lv_at hl 0 rfl) ?_
                          refine lv_iadd hx hb dX13_copy_185 ?_
                          refine va_dald hx hb hE.1 hP 4 3 rfl rfl (by rw [vp_in_iff]; first | omega | (subst_vars; omega)) dX13_copy_186 ?_
                          obtain ⟨z_23, ez_23⟩ : ∃ y : UInt64, y = (g37 (((30 * x1) + x2) + z_21).toNatClampNeg) := ⟨_, rfl⟩
                          refine W.eq (g2 := F0 m 187 ls [.double z_23, .int (((30 * x3) + x4) + z_21), .ref (a 37)]) (by rw [ez_23]) ?_
                          clear ez_23
                          refine va_dast hx hb hE.1 hP hD hS 4 3 rfl rfl (by rw [vp_in_iff]; first | omega | (subst_vars; omega)) dX13_copy_187 (fun H locs hP hD hS => ?_)
                          obtain ⟨hP, hD⟩ := wPD [(h0, .inr (10, (Value.int (q 0) :: Value.int (q 1) :: Value.int (q 2) :: Value.int (q 3) :: Value.int (q 4) :: Value.int (q 5) :: Value.int (q 6) :: Value.int (q 7) :: Value.ref (a 8) :: Value.ref (a 9) :: Value.ref (a 10) :: Value.ref (a 11) :: Value.ref (a 12) :: Value.ref (a 13) :: Value.int (q 14) :: Value.long v :: Value.long w :: Value.ref (a 17) :: Value.ref (a 18) :: Value.ref (a 19) :: Value.ref (a 20) :: Value.ref (a 21) :: Value.ref (a 22) :: Value.ref (a 23) :: Value.int (q 24) :: Value.ref (a 25) :: Value.int (q 26) :: Value.ref (a 27) :: Value.int (q 28) :: Value.int (q 29) :: Value.int (q 30) :: Value.int (q 31) :: Value.int (q 32) :: Value.int (q 33) :: Value.ref (a 34) :: Value.ref (a 35) :: Value.ref (a 36) :: Value.ref (a 37) :: Value.ref (a 38) :: Value.ref (a 39) :: Value.ref (a 40) :: Value.int (q 41) :: Value.ref (a 42) :: Value.int (q 43) :: Value.int (q 44) :: []))), ((a 34), .inl (T 0, 4, .inl f34)), ((a 35), .inl (T 0, 4, .inl f35)), ((a 36), .inl (T 1, 120, .inr (.inl (vp_updL g36 ((((30 * x3) + x4) + z_21).toNatClampNeg) z_22)))), ((a 37), .inl (T 3, 120, .inr (.inr (.inr (.inl (vf_upd g37 ((((30 * x3) + x4) + z_21).toNatClampNeg) z_23))))))] hP hD rfl
                          obtain ⟨z_24, ez_24⟩ : ∃ y : Int32, y = kk + 1 := ⟨_, rfl⟩
                          refine lv_iinc (v := z_24) (lv' := [(6, .int z_24), (7, .int z_21), (0, .ref h0), (1, .int x1), (2, .int x2), (3, .int x3), (4, .int x4), (5, .int x5)]) hx hb dX13_copy_188 hl (k := 1) rfl (by rw [ez_24]; rfl) (by decide +kernel) rfl (fun ls hl => ?_)
                          refine lv_goto (tgt := 103) hx hb dX13_copy_191 (by decide +kernel) ?_
                          exact ih (z_24, (vp_updL g36 ((((30 * x3) + x4) + z_21).toNatClampNeg) z_22), (vf_upd g37 ((((30 * x3) + x4) + z_21).toNatClampNeg) z_23)) ls _ _ ⟨lv_sub hl [0, 2, 3, 4, 5, 6, 7] rfl, hP.sub [0, 1, 2, 3, 4] rfl, hD.sub [0, 1, 2, 3, 4] (by decide +kernel) rfl, hS, (by subst_vars; (try dsimp only); rw [inc1 (i := kk) (n := 1000) (by omega) (by decide +kernel)]; omega)⟩ (by subst_vars; (try dsimp only); rw [inc1 (i := kk) (n := 1000) (by omega) (by decide +kernel)]; omega)
                        · rw [fa_le] at c_20
                          refine lv_iload hx hb dX13_copy_116 (lv_at hl 0 rfl) ?_
                          refine lv_goto (tgt := 128) hx hb dX13_copy_118 (by decide +kernel) ?_
                          refine lv_istore (lv' := [(7, .int kk), (6, .int kk), (0, .ref h0), (1, .int x1), (2, .int x2), (3, .int x3), (4, .int x4), (5, .int x5)]) hx hb dX13_copy_128 hl (by decide +kernel) rfl (fun ls hl => ?_)
                          have hBx1 : (((30 * x1) + x2) + kk).toInt = 30 * x1.toInt + x2.toInt + kk.toInt := by rw [fb_addI (by omega) (by omega), hAx1]
                          have hBx3 : (((30 * x3) + x4) + kk).toInt = 30 * x3.toInt + x4.toInt + kk.toInt := by rw [fb_addI (by omega) (by omega), hAx3]
                          refine lv_aload_n hx hb dX13_copy_130 rfl (lv_at hl 2 rfl) ?_
                          refine va_get (D := D) (ci := 10) (v := .ref (a 36)) (C := RX13) (T := TX13) (N := 45) hx hb hts in_X13_copy_X13 hown hE.1 hP 0 rfl rfl 36 (by decide +kernel) (hts (.fieldLink RX13 110 "ClauseBookModel" "whole" "[J") (List.mem_of_getElem? (i := 3) rfl)) (fun _ h9 => h9) rfl dX13_copy_131 ?_
                          refine lv_bipush (v := 30) hx hb dX13_copy_134 (by decide +kernel) ?_
                          refine lv_iload_n hx hb dX13_copy_136 rfl (lv_at hl 5 rfl) ?_
                          refine lv_imul hx hb dX13_copy_137 ?_
                          refine lv_iload hx hb dX13_copy_138 (lv_at hl 6 rfl) ?_
                          refine lv_iadd hx hb dX13_copy_140 ?_
                          refine lv_iload hx hb dX13_copy_141 (lv_at hl 0 rfl) ?_
                          refine lv_iadd hx hb dX13_copy_143 ?_
                          refine lv_aload_n hx hb dX13_copy_144 rfl (lv_at hl 2 rfl) ?_
                          refine va_get (D := D) (ci := 10) (v := .ref (a 36)) (C := RX13) (T := TX13) (N := 45) hx hb hts in_X13_copy_X13 hown hE.1 hP 0 rfl rfl 36 (by decide +kernel) (hts (.fieldLink RX13 110 "ClauseBookModel" "whole" "[J") (List.mem_of_getElem? (i := 3) rfl)) (fun _ h9 => h9) rfl dX13_copy_145 ?_
                          refine lv_bipush (v := 30) hx hb dX13_copy_148 (by decide +kernel) ?_
                          refine lv_iload_n hx hb dX13_copy_150 rfl (lv_at hl 3 rfl) ?_
                          refine lv_imul hx hb dX13_copy_151 ?_
                          refine lv_iload_n hx hb dX13_copy_152 rfl (lv_at hl 4 rfl) ?_
                          refine lv_iadd hx hb dX13_copy_153 ?_
                          refine lv_iload hx hb dX13_copy_154 (lv_at hl 0 rfl) ?_
                          refine lv_iadd hx hb dX13_copy_156 ?_
                          refine va_lald hx hb hE.1 hP 3 1 rfl rfl (by rw [vp_in_iff]; first | omega | (subst_vars; omega)) dX13_copy_157 ?_
                          refine lv_topl (fun z_25 ez_25 => ?_)
                          refine va_last hx hb hE.1 hP hD hS 3 1 rfl rfl (by rw [vp_in_iff]; first | omega | (subst_vars; omega)) dX13_copy_158 (fun H locs hP hD hS => ?_)
                          obtain ⟨hP, hD⟩ := wPD [(h0, .inr (10, (Value.int (q 0) :: Value.int (q 1) :: Value.int (q 2) :: Value.int (q 3) :: Value.int (q 4) :: Value.int (q 5) :: Value.int (q 6) :: Value.int (q 7) :: Value.ref (a 8) :: Value.ref (a 9) :: Value.ref (a 10) :: Value.ref (a 11) :: Value.ref (a 12) :: Value.ref (a 13) :: Value.int (q 14) :: Value.long v :: Value.long w :: Value.ref (a 17) :: Value.ref (a 18) :: Value.ref (a 19) :: Value.ref (a 20) :: Value.ref (a 21) :: Value.ref (a 22) :: Value.ref (a 23) :: Value.int (q 24) :: Value.ref (a 25) :: Value.int (q 26) :: Value.ref (a 27) :: Value.int (q 28) :: Value.int (q 29) :: Value.int (q 30) :: Value.int (q 31) :: Value.int (q 32) :: Value.int (q 33) :: Value.ref (a 34) :: Value.ref (a 35) :: Value.ref (a 36) :: Value.ref (a 37) :: Value.ref (a 38) :: Value.ref (a 39) :: Value.ref (a 40) :: Value.int (q 41) :: Value.ref (a 42) :: Value.int (q 43) :: Value.int (q 44) :: []))), ((a 34), .inl (T 0, 4, .inl f34)), ((a 35), .inl (T 0, 4, .inl f35)), ((a 36), .inl (T 1, 120, .inr (.inl (vp_updL g36 ((((30 * x3) + x4) + kk).toNatClampNeg) z_25)))), ((a 37), .inl (T 3, 120, .inr (.inr (.inr (.inl g37)))))] hP hD rfl
                          refine lv_aload_n hx hb dX13_copy_159 rfl (lv_at hl 2 rfl) ?_
                          refine va_get (D := D) (ci := 10) (v := .ref (a 37)) (C := RX13) (T := TX13) (N := 45) hx hb hts in_X13_copy_X13 hown hE.1 hP 0 rfl rfl 37 (by decide +kernel) (hts (.fieldLink RX13 113 "ClauseBookModel" "host" "[D") (List.mem_of_getElem? (i := 4) rfl)) (fun _ h9 => h9) rfl dX13_copy_160 ?_
                          refine lv_bipush (v := 30) hx hb dX13_copy_163 (by decide +kernel) ?_
                          refine lv_iload_n hx hb dX13_copy_165 rfl (lv_at hl 5 rfl) ?_
                          refine lv_imul hx hb dX13_copy_166 ?_
                          refine lv_iload hx hb dX13_copy_167 (lv_at hl 6 rfl) ?_
                          refine lv_iadd hx hb dX13_copy_169 ?_
                          refine lv_iload hx hb dX13_copy_170 (lv_at hl 0 rfl) ?_
                          refine lv_iadd hx hb dX13_copy_172 ?_
                          refine lv_aload_n hx hb dX13_copy_173 rfl (lv_at hl 2 rfl) ?_
                          refine va_get (D := D) (ci := 10) (v := .ref (a 37)) (C := RX13) (T := TX13) (N := 45) hx hb hts in_X13_copy_X13 hown hE.1 hP 0 rfl rfl 37 (by decide +kernel) (hts (.fieldLink RX13 113 "ClauseBookModel" "host" "[D") (List.mem_of_getElem? (i := 4) rfl)) (fun _ h9 => h9) rfl dX13_copy_174 ?_
                          refine lv_bipush (v := 30) hx hb dX13_copy_177 (by decide +kernel) ?_
                          refine lv_iload_n hx hb dX13_copy_179 rfl (lv_at hl 3 rfl) ?_
                          refine lv_imul hx hb dX13_copy_180 ?_
                          refine lv_iload_n hx hb dX13_copy_181 rfl (lv_at hl 4 rfl) ?_
                          refine lv_iadd hx hb dX13_copy_182 ?_
                          refine lv_iload hx hb dX13_copy_183 (lv_at hl 0 rfl) ?_
                          refine lv_iadd hx hb dX13_copy_185 ?_
                          refine va_dald hx hb hE.1 hP 4 3 rfl rfl (by rw [vp_in_iff]; first | omega | (subst_vars; omega)) dX13_copy_186 ?_
                          obtain ⟨z_26, ez_26⟩ : ∃ y : UInt64, y = (g37 (((30 * x1) + x2) + kk).toNatClampNeg) := ⟨_, rfl⟩
                          refine W.eq (g2 := F0 m 187 ls [.double z_26, .int (((30 * x3) + x4) + kk), .ref (a 37)]) (by rw [ez_26]) ?_
                          clear ez_26
                          refine va_dast hx hb hE.1 hP hD hS 4 3 rfl rfl (by rw [vp_in_iff]; first | omega | (subst_vars; omega)) dX13_copy_187 (fun H locs hP hD hS => ?_)
                          obtain ⟨hP, hD⟩ := wPD [(h0, .inr (10, (Value.int (q 0) :: Value.int (q 1) :: Value.int (q 2) :: Value.int (q 3) :: Value.int (q 4) :: Value.int (q 5) :: Value.int (q 6) :: Value.int (q 7) :: Value.ref (a 8) :: Value.ref (a 9) :: Value.ref (a 10) :: Value.ref (a 11) :: Value.ref (a 12) :: Value.ref (a 13) :: Value.int (q 14) :: Value.long v :: Value.long w :: Value.ref (a 17) :: Value.ref (a 18) :: Value.ref (a 19) :: Value.ref (a 20) :: Value.ref (a 21) :: Value.ref (a 22) :: Value.ref (a 23) :: Value.int (q 24) :: Value.ref (a 25) :: Value.int (q 26) :: Value.ref (a 27) :: Value.int (q 28) :: Value.int (q 29) :: Value.int (q 30) :: Value.int (q 31) :: Value.int (q 32) :: Value.int (q 33) :: Value.ref (a 34) :: Value.ref (a 35) :: Value.ref (a 36) :: Value.ref (a 37) :: Value.ref (a 38) :: Value.ref (a 39) :: Value.ref (a 40) :: Value.int (q 41) :: Value.ref (a 42) :: Value.int (q 43) :: Value.int (q 44) :: []))), ((a 34), .inl (T 0, 4, .inl f34)), ((a 35), .inl (T 0, 4, .inl f35)), ((a 36), .inl (T 1, 120, .inr (.inl (vp_updL g36 ((((30 * x3) + x4) + kk).toNatClampNeg) z_25)))), ((a 37), .inl (T 3, 120, .inr (.inr (.inr (.inl (vf_upd g37 ((((30 * x3) + x4) + kk).toNatClampNeg) z_26))))))] hP hD rfl
                          obtain ⟨z_27, ez_27⟩ : ∃ y : Int32, y = kk + 1 := ⟨_, rfl⟩
                          refine lv_iinc (v := z_27) (lv' := [(6, .int z_27), (7, .int kk), (0, .ref h0), (1, .int x1), (2, .int x2), (3, .int x3), (4, .int x4), (5, .int x5)]) hx hb dX13_copy_188 hl (k := 1) rfl (by rw [ez_27]; rfl) (by decide +kernel) rfl (fun ls hl => ?_)
                          refine lv_goto (tgt := 103) hx hb dX13_copy_191 (by decide +kernel) ?_
                          exact ih (z_27, (vp_updL g36 ((((30 * x3) + x4) + kk).toNatClampNeg) z_25), (vf_upd g37 ((((30 * x3) + x4) + kk).toNatClampNeg) z_26)) ls _ _ ⟨lv_sub hl [0, 2, 3, 4, 5, 6, 7] rfl, hP.sub [0, 1, 2, 3, 4] rfl, hD.sub [0, 1, 2, 3, 4] (by decide +kernel) rfl, hS, (by subst_vars; (try dsimp only); rw [inc1 (i := kk) (n := 1000) (by omega) (by decide +kernel)]; omega)⟩ (by subst_vars; (try dsimp only); rw [inc1 (i := kk) (n := 1000) (by omega) (by decide +kernel)]; omega)
                    · rw [fa_le] at c_18
                      refine lv_bipush (v := (-12)) hx hb dX13_copy_97 (by decide +kernel) ?_
                      exact W.iret hx hb hr (fun t ht hW => ⟨⟨_, (f36, f37), rfl, (show (¬ ((0 ≤ x1.toInt ∧ x1.toInt ≤ 3) ∧ (0 ≤ x3.toInt ∧ x3.toInt ≤ 3)) → ((-12) : Int32).toInt = -2) ∧ ((0 ≤ x1.toInt ∧ x1.toInt ≤ 3) → (0 ≤ x3.toInt ∧ x3.toInt ≤ 3) → ((f34 (x1.toNatClampNeg)).toInt < 0 ∨ (f34 (x3.toNatClampNeg)).toInt < 0 → ((-12) : Int32).toInt = -11) ∧ (¬ ((f34 (x1.toNatClampNeg)).toInt < 0 ∨ (f34 (x3.toNatClampNeg)).toInt < 0) → (¬ (f34 (x1.toNatClampNeg)).toInt = (f34 (x3.toNatClampNeg)).toInt → ((-12) : Int32).toInt = -13) ∧ ((f34 (x1.toNatClampNeg)).toInt = (f34 (x3.toNatClampNeg)).toInt → ((0 ≤ x5.toInt ∧ 0 ≤ x2.toInt ∧ 0 ≤ x4.toInt ∧ x2.toInt + x5.toInt ≤ (f35 (x1.toNatClampNeg)).toInt ∧ x4.toInt + x5.toInt ≤ (f35 (x3.toNatClampNeg)).toInt) → ((-12) : Int32).toInt = x5.toInt) ∧ (¬ (0 ≤ x5.toInt ∧ 0 ≤ x2.toInt ∧ 0 ≤ x4.toInt ∧ x2.toInt + x5.toInt ≤ (f35 (x1.toNatClampNeg)).toInt ∧ x4.toInt + x5.toInt ≤ (f35 (x3.toNatClampNeg)).toInt) → ((-12) : Int32).toInt = -12)))) from (by have h9r : ((-12) : Int32).toInt = -12 := (by decide +kernel); omega)), by rw [ht]; exact hP.sub [0, 1, 2, 3, 4] rfl, hD.sub [0, 1, 2, 3, 4] (by decide +kernel) rfl⟩, hS.F ht⟩) hS.2.2 dX13_copy_99
          · rw [fa_eq] at c_11
            refine lv_bipush (v := (-13)) hx hb dX13_copy_53 (by decide +kernel) ?_
            exact W.iret hx hb hr (fun t ht hW => ⟨⟨_, (f36, f37), rfl, (show (¬ ((0 ≤ x1.toInt ∧ x1.toInt ≤ 3) ∧ (0 ≤ x3.toInt ∧ x3.toInt ≤ 3)) → ((-13) : Int32).toInt = -2) ∧ ((0 ≤ x1.toInt ∧ x1.toInt ≤ 3) → (0 ≤ x3.toInt ∧ x3.toInt ≤ 3) → ((f34 (x1.toNatClampNeg)).toInt < 0 ∨ (f34 (x3.toNatClampNeg)).toInt < 0 → ((-13) : Int32).toInt = -11) ∧ (¬ ((f34 (x1.toNatClampNeg)).toInt < 0 ∨ (f34 (x3.toNatClampNeg)).toInt < 0) → (¬ (f34 (x1.toNatClampNeg)).toInt = (f34 (x3.toNatClampNeg)).toInt → ((-13) : Int32).toInt = -13) ∧ ((f34 (x1.toNatClampNeg)).toInt = (f34 (x3.toNatClampNeg)).toInt → ((0 ≤ x5.toInt ∧ 0 ≤ x2.toInt ∧ 0 ≤ x4.toInt ∧ x2.toInt + x5.toInt ≤ (f35 (x1.toNatClampNeg)).toInt ∧ x4.toInt + x5.toInt ≤ (f35 (x3.toNatClampNeg)).toInt) → ((-13) : Int32).toInt = x5.toInt) ∧ (¬ (0 ≤ x5.toInt ∧ 0 ≤ x2.toInt ∧ 0 ≤ x4.toInt ∧ x2.toInt + x5.toInt ≤ (f35 (x1.toNatClampNeg)).toInt ∧ x4.toInt + x5.toInt ≤ (f35 (x3.toNatClampNeg)).toInt) → ((-13) : Int32).toInt = -12)))) from (by have h9r : ((-13) : Int32).toInt = -13 := (by decide +kernel); omega)), by rw [ht]; exact hP.sub [0, 1, 2, 3, 4] rfl, hD.sub [0, 1, 2, 3, 4] (by decide +kernel) rfl⟩, hS.F ht⟩) hS.2.2 dX13_copy_55
        · rw [fa_le] at c_8
          try rw [ti_0] at c_8
          refine lv_bipush (v := (-11)) hx hb dX13_copy_35 (by decide +kernel) ?_
          exact W.iret hx hb hr (fun t ht hW => ⟨⟨_, (f36, f37), rfl, (show (¬ ((0 ≤ x1.toInt ∧ x1.toInt ≤ 3) ∧ (0 ≤ x3.toInt ∧ x3.toInt ≤ 3)) → ((-11) : Int32).toInt = -2) ∧ ((0 ≤ x1.toInt ∧ x1.toInt ≤ 3) → (0 ≤ x3.toInt ∧ x3.toInt ≤ 3) → ((f34 (x1.toNatClampNeg)).toInt < 0 ∨ (f34 (x3.toNatClampNeg)).toInt < 0 → ((-11) : Int32).toInt = -11) ∧ (¬ ((f34 (x1.toNatClampNeg)).toInt < 0 ∨ (f34 (x3.toNatClampNeg)).toInt < 0) → (¬ (f34 (x1.toNatClampNeg)).toInt = (f34 (x3.toNatClampNeg)).toInt → ((-11) : Int32).toInt = -13) ∧ ((f34 (x1.toNatClampNeg)).toInt = (f34 (x3.toNatClampNeg)).toInt → ((0 ≤ x5.toInt ∧ 0 ≤ x2.toInt ∧ 0 ≤ x4.toInt ∧ x2.toInt + x5.toInt ≤ (f35 (x1.toNatClampNeg)).toInt ∧ x4.toInt + x5.toInt ≤ (f35 (x3.toNatClampNeg)).toInt) → ((-11) : Int32).toInt = x5.toInt) ∧ (¬ (0 ≤ x5.toInt ∧ 0 ≤ x2.toInt ∧ 0 ≤ x4.toInt ∧ x2.toInt + x5.toInt ≤ (f35 (x1.toNatClampNeg)).toInt ∧ x4.toInt + x5.toInt ≤ (f35 (x3.toNatClampNeg)).toInt) → ((-11) : Int32).toInt = -12)))) from (by have h9r : ((-11) : Int32).toInt = -11 := (by decide +kernel); omega)), by rw [ht]; exact hP.sub [0, 1, 2, 3, 4] rfl, hD.sub [0, 1, 2, 3, 4] (by decide +kernel) rfl⟩, hS.F ht⟩) hS.2.2 dX13_copy_37
    · refine lv_if_ne (tgt := 17) hx hb dX13_copy_11 (by decide +kernel) (fun c9 => absurd c9 (by decide +kernel)) (fun _ => ?_)
      refine lv_bipush (v := (-2)) hx hb dX13_copy_14 (by decide +kernel) ?_
      exact W.iret hx hb hr (fun t ht hW => ⟨⟨_, (f36, f37), rfl, (show (¬ ((0 ≤ x1.toInt ∧ x1.toInt ≤ 3) ∧ (0 ≤ x3.toInt ∧ x3.toInt ≤ 3)) → ((-2) : Int32).toInt = -2) ∧ ((0 ≤ x1.toInt ∧ x1.toInt ≤ 3) → (0 ≤ x3.toInt ∧ x3.toInt ≤ 3) → ((f34 (x1.toNatClampNeg)).toInt < 0 ∨ (f34 (x3.toNatClampNeg)).toInt < 0 → ((-2) : Int32).toInt = -11) ∧ (¬ ((f34 (x1.toNatClampNeg)).toInt < 0 ∨ (f34 (x3.toNatClampNeg)).toInt < 0) → (¬ (f34 (x1.toNatClampNeg)).toInt = (f34 (x3.toNatClampNeg)).toInt → ((-2) : Int32).toInt = -13) ∧ ((f34 (x1.toNatClampNeg)).toInt = (f34 (x3.toNatClampNeg)).toInt → ((0 ≤ x5.toInt ∧ 0 ≤ x2.toInt ∧ 0 ≤ x4.toInt ∧ x2.toInt + x5.toInt ≤ (f35 (x1.toNatClampNeg)).toInt ∧ x4.toInt + x5.toInt ≤ (f35 (x3.toNatClampNeg)).toInt) → ((-2) : Int32).toInt = x5.toInt) ∧ (¬ (0 ≤ x5.toInt ∧ 0 ≤ x2.toInt ∧ 0 ≤ x4.toInt ∧ x2.toInt + x5.toInt ≤ (f35 (x1.toNatClampNeg)).toInt ∧ x4.toInt + x5.toInt ≤ (f35 (x3.toNatClampNeg)).toInt) → ((-2) : Int32).toInt = -12)))) from (by have h9r : ((-2) : Int32).toInt = -2 := (by decide +kernel); omega)), by rw [ht]; exact hP.sub [0, 1, 2, 3, 4] rfl, hD.sub [0, 1, 2, 3, 4] (by decide +kernel) rfl⟩, hS.F ht⟩) hS.2.2 dX13_copy_16
  · refine lv_if_eq (tgt := 14) hx hb dX13_copy_4 (by decide +kernel) (fun _ => ?_) (fun c9 => absurd c9 (by decide +kernel))
    refine lv_bipush (v := (-2)) hx hb dX13_copy_14 (by decide +kernel) ?_
    exact W.iret hx hb hr (fun t ht hW => ⟨⟨_, (f36, f37), rfl, (show (¬ ((0 ≤ x1.toInt ∧ x1.toInt ≤ 3) ∧ (0 ≤ x3.toInt ∧ x3.toInt ≤ 3)) → ((-2) : Int32).toInt = -2) ∧ ((0 ≤ x1.toInt ∧ x1.toInt ≤ 3) → (0 ≤ x3.toInt ∧ x3.toInt ≤ 3) → ((f34 (x1.toNatClampNeg)).toInt < 0 ∨ (f34 (x3.toNatClampNeg)).toInt < 0 → ((-2) : Int32).toInt = -11) ∧ (¬ ((f34 (x1.toNatClampNeg)).toInt < 0 ∨ (f34 (x3.toNatClampNeg)).toInt < 0) → (¬ (f34 (x1.toNatClampNeg)).toInt = (f34 (x3.toNatClampNeg)).toInt → ((-2) : Int32).toInt = -13) ∧ ((f34 (x1.toNatClampNeg)).toInt = (f34 (x3.toNatClampNeg)).toInt → ((0 ≤ x5.toInt ∧ 0 ≤ x2.toInt ∧ 0 ≤ x4.toInt ∧ x2.toInt + x5.toInt ≤ (f35 (x1.toNatClampNeg)).toInt ∧ x4.toInt + x5.toInt ≤ (f35 (x3.toNatClampNeg)).toInt) → ((-2) : Int32).toInt = x5.toInt) ∧ (¬ (0 ≤ x5.toInt ∧ 0 ≤ x2.toInt ∧ 0 ≤ x4.toInt ∧ x2.toInt + x5.toInt ≤ (f35 (x1.toNatClampNeg)).toInt ∧ x4.toInt + x5.toInt ≤ (f35 (x3.toNatClampNeg)).toInt) → ((-2) : Int32).toInt = -12)))) from (by have h9r : ((-2) : Int32).toInt = -2 := (by decide +kernel); omega)), by rw [ht]; exact hP.sub [0, 1, 2, 3, 4] rfl, hD.sub [0, 1, 2, 3, 4] (by decide +kernel) rfl⟩, hS.F ht⟩) hS.2.2 dX13_copy_16
end
section
theorem upd_same {f : Nat → Int32} {k : Nat} {z : Int32} (h : z = f k) : ∀ j : Nat, upd f k z j = f j := by
  intro j
  simp only [upd]
  by_cases e : j = k
  · rw [if_pos e, h, e]
  · rw [if_neg e]
theorem upd_other {f : Nat → Int32} {x z : Int32} (h : 0 ≤ x.toInt) : ∀ j : Nat, (j : Int) ≠ x.toInt → upd f x.toNatClampNeg z j = f j := by
  intro j hj
  have h2 := tn h
  simp only [upd]
  rw [if_neg (by omega)]
theorem row0 {f g g' o : Nat → Int32} {p : Nat} {i i' pp r : Int32} (h0 : 0 ≤ i.toInt) (hi : i'.toInt = i.toInt + 1) (hp : pp.toNatClampNeg = p + i.toNatClampNeg) (hg : ∀ j : Nat, g j = f j) (ho : ∀ j : Nat, (j : Int) < i.toInt → o j = f (p + j)) (hr : r = g pp.toNatClampNeg) (hg' : ∀ j : Nat, g' j = g j) : (∀ j : Nat, g' j = f j) ∧ ∀ j : Nat, (j : Int) < i'.toInt → upd o i.toNatClampNeg r j = f (p + j) := by
  refine ⟨fun j => (hg' j).trans (hg j), fun j hj => ?_⟩
  have h2 := tn h0
  simp only [upd]
  by_cases e : j = i.toNatClampNeg
  · rw [if_pos e, hr, hg, hp, e]
  · rw [if_neg e]
    exact ho j (by omega)
theorem row1 {f g g' o fo : Nat → Int32} {p : Nat} {i i' pp r x : Int32} (h0 : 0 ≤ i.toInt) (hi : i'.toInt = i.toInt + 1) (hpp : 0 ≤ pp.toInt) (hp : pp.toNatClampNeg = p + i.toNatClampNeg) (ho : ∀ j : Nat, o j = fo j) (hgo : ∀ j : Nat, (j : Int) < i.toInt → g (p + j) = fo j) (hgf : ∀ j : Nat, j < p → g j = f j) (hr : r = x) (hx : x = o i.toNatClampNeg) (hg1 : g' pp.toNatClampNeg = x) (hg2 : ∀ j : Nat, (j : Int) ≠ pp.toInt → g' j = g j) : (∀ j : Nat, upd o i.toNatClampNeg r j = fo j) ∧ (∀ j : Nat, (j : Int) < i'.toInt → g' (p + j) = fo j) ∧ ∀ j : Nat, j < p → g' j = f j := by
  have h2 := tn h0
  have h3 := tn hpp
  refine ⟨fun j => ?_, fun j hj => ?_, fun j hj => ?_⟩
  · rw [upd_same (hr.trans hx) j]
    exact ho j
  · by_cases e : j = i.toNatClampNeg
    · rw [e, ← hp, hg1, hx, ho]
    · rw [hg2 _ (by omega)]
      exact hgo j (by omega)
  · rw [hg2 _ (by omega)]
    exact hgf j hj
/-- what an image holds -/
def okK (g : Nat → Int32) : Prop := ((1 ≤ (g 4).toInt ∧ (g 4).toInt ≤ 9) ∧ 1 ≤ (g 6).toInt ∧ (g 6).toInt ≤ 9) ∧ (0 ≤ (g 7).toInt ∧ (g 7).toInt ≤ 24) ∧ okR (fun j => g (8 + j)) (fun j => g (56 + j)) (fun j => g (80 + j)) ∧ ∀ k : Nat, k < 3 → 0 ≤ (g (140 + k)).toInt ∧ (g (140 + k)).toInt ≤ 12
theorem okR_ext {fk fc fd gk gc gd : Nat → Int32} (h : okR fk fc fd) (hk : ∀ j : Nat, j < 24 → gk j = fk j) (hc : ∀ j : Nat, j < 24 → gc j = fc j) (hd : ∀ j : Nat, j < 24 → gd j = fd j) : okR gk gc gd := by
  intro j hj
  rw [hk j hj, hc j hj, hd j hj]
  exact h j hj
theorem bg_ext {f g : Nat → Int32} (h : ∀ k : Nat, k < 3 → 0 ≤ (f k).toInt ∧ (f k).toInt ≤ 12) (e : ∀ k : Nat, k < 3 → g k = f k) : ∀ k : Nat, k < 3 → 0 ≤ (g k).toInt ∧ (g k).toInt ≤ 12 := by
  intro k hk
  rw [e k hk]
  exact h k hk
theorem dX13_passes_0 : decode cX13_passes 0 = .ok (.aload_n 0, 1) := by decide +kernel
theorem dX13_passes_1 : decode cX13_passes 1 = .ok (.getfield 423, 3) := by decide +kernel
theorem dX13_passes_11 : decode cX13_passes 11 = .ok (.aload_n 0, 1) := by decide +kernel
theorem dX13_passes_12 : decode cX13_passes 12 = .ok (.getfield 126, 3) := by decide +kernel
theorem dX13_passes_15 : decode cX13_passes 15 = .ok (.aload_n 0, 1) := by decide +kernel
theorem dX13_passes_16 : decode cX13_passes 16 = .ok (.getfield 426, 3) := by decide +kernel
theorem dX13_passes_19 : decode cX13_passes 19 = .ok (.iaload, 1) := by decide +kernel
theorem dX13_passes_20 : decode cX13_passes 20 = .ok (.istore_n 2, 1) := by decide +kernel
theorem dX13_passes_21 : decode cX13_passes 21 = .ok (.aload_n 0, 1) := by decide +kernel
theorem dX13_passes_22 : decode cX13_passes 22 = .ok (.getfield 126, 3) := by decide +kernel
theorem dX13_passes_25 : decode cX13_passes 25 = .ok (.aload_n 0, 1) := by decide +kernel
theorem dX13_passes_26 : decode cX13_passes 26 = .ok (.getfield 426, 3) := by decide +kernel
theorem dX13_passes_29 : decode cX13_passes 29 = .ok (.iload_n 2, 1) := by decide +kernel
theorem dX13_passes_30 : decode cX13_passes 30 = .ok (.iastore, 1) := by decide +kernel
theorem dX13_passes_31 : decode cX13_passes 31 = .ok (.aload_n 0, 1) := by decide +kernel
theorem dX13_passes_32 : decode cX13_passes 32 = .ok (.dup, 1) := by decide +kernel
theorem dX13_passes_33 : decode cX13_passes 33 = .ok (.getfield 426, 3) := by decide +kernel
theorem dX13_passes_36 : decode cX13_passes 36 = .ok (.iconst 1, 1) := by decide +kernel
theorem dX13_passes_37 : decode cX13_passes 37 = .ok (.iadd, 1) := by decide +kernel
theorem dX13_passes_38 : decode cX13_passes 38 = .ok (.putfield 426, 3) := by decide +kernel
theorem dX13_passes_4 : decode cX13_passes 4 = .ok (.ifCond .eq 7, 3) := by decide +kernel
theorem dX13_passes_41 : decode cX13_passes 41 = .ok (.iload_n 2, 1) := by decide +kernel
theorem dX13_passes_42 : decode cX13_passes 42 = .ok (.ireturn, 1) := by decide +kernel
theorem dX13_passes_7 : decode cX13_passes 7 = .ok (.iload_n 1, 1) := by decide +kernel
theorem dX13_passes_8 : decode cX13_passes 8 = .ok (.goto 12, 3) := by decide +kernel
set_option maxRecDepth 20000 in
theorem in_X13_passes_X13 : ∀ w ∈ wsX130, w ∈ wsX13_passes := sub_r [4, 5, 6, 7, 8, 9, 10, 11, 12, 13, 14, 15, 16, 17, 18, 19, 20, 21, 22, 23, 24, 25, 26, 27, 28, 29, 30, 31, 32, 33, 34, 35, 36, 37, 38, 39, 40, 41, 42, 43, 44, 45, 46, 47, 48] rfl
set_option maxHeartbeats 4000000 in
set_option maxRecDepth 100000 in
theorem c_X13_passes (l : Launch) (D : va_G) (T : Nat → ClassId) (sz : Nat) (h0 : Nat) (q : Nat → Int32) (v : Int64) (w : Int64) (a : Nat → Nat) (f42 : Nat → Int32) (x1 : Int32) (hp : 0 ≤ (q 43).toInt ∧ (q 43).toInt < 143) : Met l yX13_passes wsX13_passes ({ frames := 0, cells := 0, slots := 0, locals := 0 }) (pW [.ref h0, .int x1] D T [(h0, .inr (10, (Value.int (q 0) :: Value.int (q 1) :: Value.int (q 2) :: Value.int (q 3) :: Value.int (q 4) :: Value.int (q 5) :: Value.int (q 6) :: Value.int (q 7) :: Value.ref (a 8) :: Value.ref (a 9) :: Value.ref (a 10) :: Value.ref (a 11) :: Value.ref (a 12) :: Value.ref (a 13) :: Value.int (q 14) :: Value.long v :: Value.long w :: Value.ref (a 17) :: Value.ref (a 18) :: Value.ref (a 19) :: Value.ref (a 20) :: Value.ref (a 21) :: Value.ref (a 22) :: Value.ref (a 23) :: Value.int (q 24) :: Value.ref (a 25) :: Value.int (q 26) :: Value.ref (a 27) :: Value.int (q 28) :: Value.int (q 29) :: Value.int (q 30) :: Value.int (q 31) :: Value.int (q 32) :: Value.int (q 33) :: Value.ref (a 34) :: Value.ref (a 35) :: Value.ref (a 36) :: Value.ref (a 37) :: Value.ref (a 38) :: Value.ref (a 39) :: Value.ref (a 40) :: Value.int (q 41) :: Value.ref (a 42) :: Value.int (q 43) :: Value.int (q 44) :: []))), ((a 42), .inl (T 0, 143, .inl f42))] sz) (va_Qi (fun (r : Int32) (u : (Int32) × (Nat → Int32)) => (u.1.toInt = (q 43).toInt + 1) ∧ ((((q 44) : Int32).toInt = 0 → r = f42 ((q 43).toNatClampNeg) ∧ ∀ j : Nat, u.2 j = f42 j) ∧ (¬ ((q 44) : Int32).toInt = 0 → r = x1 ∧ u.2 ((q 43).toNatClampNeg) = x1 ∧ ∀ j : Nat, (j : Int) ≠ (q 43).toInt → u.2 j = f42 j))) (bW D (va_A [(h0, .inr (10, (Value.int (q 0) :: Value.int (q 1) :: Value.int (q 2) :: Value.int (q 3) :: Value.int (q 4) :: Value.int (q 5) :: Value.int (q 6) :: Value.int (q 7) :: Value.ref (a 8) :: Value.ref (a 9) :: Value.ref (a 10) :: Value.ref (a 11) :: Value.ref (a 12) :: Value.ref (a 13) :: Value.int (q 14) :: Value.long v :: Value.long w :: Value.ref (a 17) :: Value.ref (a 18) :: Value.ref (a 19) :: Value.ref (a 20) :: Value.ref (a 21) :: Value.ref (a 22) :: Value.ref (a 23) :: Value.int (q 24) :: Value.ref (a 25) :: Value.int (q 26) :: Value.ref (a 27) :: Value.int (q 28) :: Value.int (q 29) :: Value.int (q 30) :: Value.int (q 31) :: Value.int (q 32) :: Value.int (q 33) :: Value.ref (a 34) :: Value.ref (a 35) :: Value.ref (a 36) :: Value.ref (a 37) :: Value.ref (a 38) :: Value.ref (a 39) :: Value.ref (a 40) :: Value.int (q 41) :: Value.ref (a 42) :: Value.int (q 43) :: Value.int (q 44) :: []))), ((a 42), .inl (T 0, 143, .inl f42))] sz) (fun (u : (Int32) × (Nat → Int32)) => [(h0, .inr (10, (Value.int (q 0) :: Value.int (q 1) :: Value.int (q 2) :: Value.int (q 3) :: Value.int (q 4) :: Value.int (q 5) :: Value.int (q 6) :: Value.int (q 7) :: Value.ref (a 8) :: Value.ref (a 9) :: Value.ref (a 10) :: Value.ref (a 11) :: Value.ref (a 12) :: Value.ref (a 13) :: Value.int (q 14) :: Value.long v :: Value.long w :: Value.ref (a 17) :: Value.ref (a 18) :: Value.ref (a 19) :: Value.ref (a 20) :: Value.ref (a 21) :: Value.ref (a 22) :: Value.ref (a 23) :: Value.int (q 24) :: Value.ref (a 25) :: Value.int (q 26) :: Value.ref (a 27) :: Value.int (q 28) :: Value.int (q 29) :: Value.int (q 30) :: Value.int (q 31) :: Value.int (q 32) :: Value.int (q 33) :: Value.ref (a 34) :: Value.ref (a 35) :: Value.ref (a 36) :: Value.ref (a 37) :: Value.ref (a 38) :: Value.ref (a 39) :: Value.ref (a 40) :: Value.int (q 41) :: Value.ref (a 42) :: Value.int u.1 :: Value.int (q 44) :: []))), ((a 42), .inl (T 0, 143, .inl u.2))])) (va_A [(h0, .inr (10, (Value.int (q 0) :: Value.int (q 1) :: Value.int (q 2) :: Value.int (q 3) :: Value.int (q 4) :: Value.int (q 5) :: Value.int (q 6) :: Value.int (q 7) :: Value.ref (a 8) :: Value.ref (a 9) :: Value.ref (a 10) :: Value.ref (a 11) :: Value.ref (a 12) :: Value.ref (a 13) :: Value.int (q 14) :: Value.long v :: Value.long w :: Value.ref (a 17) :: Value.ref (a 18) :: Value.ref (a 19) :: Value.ref (a 20) :: Value.ref (a 21) :: Value.ref (a 22) :: Value.ref (a 23) :: Value.int (q 24) :: Value.ref (a 25) :: Value.int (q 26) :: Value.ref (a 27) :: Value.int (q 28) :: Value.int (q 29) :: Value.int (q 30) :: Value.int (q 31) :: Value.int (q 32) :: Value.int (q 33) :: Value.ref (a 34) :: Value.ref (a 35) :: Value.ref (a 36) :: Value.ref (a 37) :: Value.ref (a 38) :: Value.ref (a 39) :: Value.ref (a 40) :: Value.int (q 41) :: Value.ref (a 42) :: Value.int (q 43) :: Value.int (q 44) :: []))), ((a 42), .inl (T 0, 143, .inl f42))] sz)) 0 0 (va_A [(h0, .inr (10, (Value.int (q 0) :: Value.int (q 1) :: Value.int (q 2) :: Value.int (q 3) :: Value.int (q 4) :: Value.int (q 5) :: Value.int (q 6) :: Value.int (q 7) :: Value.ref (a 8) :: Value.ref (a 9) :: Value.ref (a 10) :: Value.ref (a 11) :: Value.ref (a 12) :: Value.ref (a 13) :: Value.int (q 14) :: Value.long v :: Value.long w :: Value.ref (a 17) :: Value.ref (a 18) :: Value.ref (a 19) :: Value.ref (a 20) :: Value.ref (a 21) :: Value.ref (a 22) :: Value.ref (a 23) :: Value.int (q 24) :: Value.ref (a 25) :: Value.int (q 26) :: Value.ref (a 27) :: Value.int (q 28) :: Value.int (q 29) :: Value.int (q 30) :: Value.int (q 31) :: Value.int (q 32) :: Value.int (q 33) :: Value.ref (a 34) :: Value.ref (a 35) :: Value.ref (a 36) :: Value.ref (a 37) :: Value.ref (a 38) :: Value.ref (a 39) :: Value.ref (a 40) :: Value.int (q 41) :: Value.ref (a 42) :: Value.int (q 43) :: Value.int (q 44) :: []))), ((a 42), .inl (T 0, 143, .inl f42))] sz) := by
  refine Met.ofW (cc := cX13_passes) (maxL := 3) (ret := (some .int)) (by decide +kernel) rfl ?_
  intro p e s m args below meth c s₁ B hml hv
  obtain ⟨rfl, hsz, hP, hE, hD0⟩ := hv
  have hx := B.exec
  have hb := B.bytes
  have hr := B.returns
  have hts := atoms_spec (ws := wsX13_passes) B.pre
  have hown : s.vm.findClass RX13 = some m.cls := findClass_of_methodNamed B.named
  have hlocks := B.notSynchronized
  subst hsz
  have hD := hD0.self (sz := s.heap.size)
  generalize hAe : va_A [(h0, .inr (10, (Value.int (q 0) :: Value.int (q 1) :: Value.int (q 2) :: Value.int (q 3) :: Value.int (q 4) :: Value.int (q 5) :: Value.int (q 6) :: Value.int (q 7) :: Value.ref (a 8) :: Value.ref (a 9) :: Value.ref (a 10) :: Value.ref (a 11) :: Value.ref (a 12) :: Value.ref (a 13) :: Value.int (q 14) :: Value.long v :: Value.long w :: Value.ref (a 17) :: Value.ref (a 18) :: Value.ref (a 19) :: Value.ref (a 20) :: Value.ref (a 21) :: Value.ref (a 22) :: Value.ref (a 23) :: Value.int (q 24) :: Value.ref (a 25) :: Value.int (q 26) :: Value.ref (a 27) :: Value.int (q 28) :: Value.int (q 29) :: Value.int (q 30) :: Value.int (q 31) :: Value.int (q 32) :: Value.int (q 33) :: Value.ref (a 34) :: Value.ref (a 35) :: Value.ref (a 36) :: Value.ref (a 37) :: Value.ref (a 38) :: Value.ref (a 39) :: Value.ref (a 40) :: Value.int (q 41) :: Value.ref (a 42) :: Value.int (q 43) :: Value.int (q 44) :: []))), ((a 42), .inl (T 0, 143, .inl f42))] s.heap.size = A at hD ⊢
  have hA : ∀ q : Nat, s.heap.size ≤ q → A q := fun q h => by rw [← hAe]; exact Or.inr h
  have hS : va_S A s.heap s.heap [] := va_S.rf
  have hP : va_P D vwCl [(h0, .inr (10, (Value.int (q 0) :: Value.int (q 1) :: Value.int (q 2) :: Value.int (q 3) :: Value.int (q 4) :: Value.int (q 5) :: Value.int (q 6) :: Value.int (q 7) :: Value.ref (a 8) :: Value.ref (a 9) :: Value.ref (a 10) :: Value.ref (a 11) :: Value.ref (a 12) :: Value.ref (a 13) :: Value.int (q 14) :: Value.long v :: Value.long w :: Value.ref (a 17) :: Value.ref (a 18) :: Value.ref (a 19) :: Value.ref (a 20) :: Value.ref (a 21) :: Value.ref (a 22) :: Value.ref (a 23) :: Value.int (q 24) :: Value.ref (a 25) :: Value.int (q 26) :: Value.ref (a 27) :: Value.int (q 28) :: Value.int (q 29) :: Value.int (q 30) :: Value.int (q 31) :: Value.int (q 32) :: Value.int (q 33) :: Value.ref (a 34) :: Value.ref (a 35) :: Value.ref (a 36) :: Value.ref (a 37) :: Value.ref (a 38) :: Value.ref (a 39) :: Value.ref (a 40) :: Value.int (q 41) :: Value.ref (a 42) :: Value.int (q 43) :: Value.int (q 44) :: []))), ((a 42), .inl (T 0, 143, .inl f42))] s.heap := hP
  have hl := lv_entry ([.ref h0, .int x1]) (n := 3) (Nat.le_of_ble_eq_true rfl)
  rw [lg_entry_eq]
  generalize (lg_sl ([.ref h0, .int x1]) ++ List.replicate (3 - (lg_sl ([.ref h0, .int x1])).length) Slot.unset).toArray = ls at hl ⊢
  have hl : lv_has ls 3 [(0, .ref h0), (1, .int x1)] := hl
  clear hD0
  refine lv_aload_n hx hb dX13_passes_0 rfl (lv_at hl 0 rfl) ?_
  refine va_get (D := D) (ci := 10) (v := .int (q 44)) (C := RX13) (T := TX13) (N := 45) hx hb hts in_X13_passes_X13 hown hE.1 hP 0 rfl rfl 44 (by decide +kernel) (hts (.fieldLink RX13 423 "ClauseBookModel" "isKeeping" "Z") (List.mem_of_getElem? (i := 1) rfl)) (fun _ h9 => h9) rfl dX13_passes_1 ?_
  refine lv_if_eq (tgt := 11) hx hb dX13_passes_4 (by decide +kernel) (fun c_1 => ?_) (fun c_1 => ?_)
  · rw [fa_eq] at c_1
    try rw [ti_0] at c_1
    refine lv_aload_n hx hb dX13_passes_11 rfl (lv_at hl 0 rfl) ?_
    refine va_get (D := D) (ci := 10) (v := .ref (a 42)) (C := RX13) (T := TX13) (N := 45) hx hb hts in_X13_passes_X13 hown hE.1 hP 0 rfl rfl 42 (by decide +kernel) (hts (.fieldLink RX13 126 "ClauseBookModel" "kept" "[I") (List.mem_of_getElem? (i := 2) rfl)) (fun _ h9 => h9) rfl dX13_passes_12 ?_
    refine lv_aload_n hx hb dX13_passes_15 rfl (lv_at hl 0 rfl) ?_
    refine va_get (D := D) (ci := 10) (v := .int (q 43)) (C := RX13) (T := TX13) (N := 45) hx hb hts in_X13_passes_X13 hown hE.1 hP 0 rfl rfl 43 (by decide +kernel) (hts (.fieldLink RX13 426 "ClauseBookModel" "passed" "I") (List.mem_of_getElem? (i := 3) rfl)) (fun _ h9 => h9) rfl dX13_passes_16 ?_
    refine va_iald hx hb hE.1 hP 1 0 rfl rfl (by rw [vp_in_iff]; first | omega | (subst_vars; omega)) dX13_passes_19 ?_
    refine lv_topi (fun z_2 ez_2 => ?_)
    refine lv_istore_n (lv' := [(2, .int z_2), (0, .ref h0), (1, .int x1)]) hx hb dX13_passes_20 rfl hl (by decide +kernel) rfl (fun ls hl => ?_)
    refine lv_aload_n hx hb dX13_passes_21 rfl (lv_at hl 1 rfl) ?_
    refine va_get (D := D) (ci := 10) (v := .ref (a 42)) (C := RX13) (T := TX13) (N := 45) hx hb hts in_X13_passes_X13 hown hE.1 hP 0 rfl rfl 42 (by decide +kernel) (hts (.fieldLink RX13 126 "ClauseBookModel" "kept" "[I") (List.mem_of_getElem? (i := 2) rfl)) (fun _ h9 => h9) rfl dX13_passes_22 ?_
    refine lv_aload_n hx hb dX13_passes_25 rfl (lv_at hl 1 rfl) ?_
    refine va_get (D := D) (ci := 10) (v := .int (q 43)) (C := RX13) (T := TX13) (N := 45) hx hb hts in_X13_passes_X13 hown hE.1 hP 0 rfl rfl 43 (by decide +kernel) (hts (.fieldLink RX13 426 "ClauseBookModel" "passed" "I") (List.mem_of_getElem? (i := 3) rfl)) (fun _ h9 => h9) rfl dX13_passes_26 ?_
    refine lv_iload_n hx hb dX13_passes_29 rfl (lv_at hl 0 rfl) ?_
    refine va_iast hx hb hE.1 hP hD hS 1 0 rfl rfl (by rw [vp_in_iff]; first | omega | (subst_vars; omega)) dX13_passes_30 (fun H locs hP hD hS => ?_)
    obtain ⟨hP, hD⟩ := wPD [(h0, .inr (10, (Value.int (q 0) :: Value.int (q 1) :: Value.int (q 2) :: Value.int (q 3) :: Value.int (q 4) :: Value.int (q 5) :: Value.int (q 6) :: Value.int (q 7) :: Value.ref (a 8) :: Value.ref (a 9) :: Value.ref (a 10) :: Value.ref (a 11) :: Value.ref (a 12) :: Value.ref (a 13) :: Value.int (q 14) :: Value.long v :: Value.long w :: Value.ref (a 17) :: Value.ref (a 18) :: Value.ref (a 19) :: Value.ref (a 20) :: Value.ref (a 21) :: Value.ref (a 22) :: Value.ref (a 23) :: Value.int (q 24) :: Value.ref (a 25) :: Value.int (q 26) :: Value.ref (a 27) :: Value.int (q 28) :: Value.int (q 29) :: Value.int (q 30) :: Value.int (q 31) :: Value.int (q 32) :: Value.int (q 33) :: Value.ref (a 34) :: Value.ref (a 35) :: Value.ref (a 36) :: Value.ref (a 37) :: Value.ref (a 38) :: Value.ref (a 39) :: Value.ref (a 40) :: Value.int (q 41) :: Value.ref (a 42) :: Value.int (q 43) :: Value.int (q 44) :: []))), ((a 42), .inl (T 0, 143, .inl (upd f42 ((q 43).toNatClampNeg) z_2)))] hP hD rfl
    refine lv_aload_n hx hb dX13_passes_31 rfl (lv_at hl 1 rfl) ?_
    refine lv_dup hx hb dX13_passes_32 rfl ?_
    refine va_get (D := D) (ci := 10) (v := .int (q 43)) (C := RX13) (T := TX13) (N := 45) hx hb hts in_X13_passes_X13 hown hE.1 hP 0 rfl rfl 43 (by decide +kernel) (hts (.fieldLink RX13 426 "ClauseBookModel" "passed" "I") (List.mem_of_getElem? (i := 3) rfl)) (fun _ h9 => h9) rfl dX13_passes_33 ?_
    refine lv_iconst (v := 1) hx hb dX13_passes_36 (by decide +kernel) ?_
    refine lv_iadd hx hb dX13_passes_37 ?_
    refine lv_topi (fun z_3 ez_3 => ?_)
    refine va_put (D := D) (ci := 10) (v := .int z_3) (ty := .int) (C := RX13) (T := TX13) (N := 45) hx hb hts in_X13_passes_X13 tyX13 tyX13_ok nmX13 hown hE.1 hP hD hS 0 rfl rfl 43 (by decide +kernel) (hts (.fieldLink RX13 426 "ClauseBookModel" "passed" "I") (List.mem_of_getElem? (i := 3) rfl)) (fun _ h9 => h9) rfl (by decide +kernel) rfl rfl (Nat.le_of_ble_eq_true rfl) dX13_passes_38 (fun H locs hP hD hS => ?_)
    obtain ⟨hP, hD⟩ := wPD [(h0, .inr (10, (Value.int (q 0) :: Value.int (q 1) :: Value.int (q 2) :: Value.int (q 3) :: Value.int (q 4) :: Value.int (q 5) :: Value.int (q 6) :: Value.int (q 7) :: Value.ref (a 8) :: Value.ref (a 9) :: Value.ref (a 10) :: Value.ref (a 11) :: Value.ref (a 12) :: Value.ref (a 13) :: Value.int (q 14) :: Value.long v :: Value.long w :: Value.ref (a 17) :: Value.ref (a 18) :: Value.ref (a 19) :: Value.ref (a 20) :: Value.ref (a 21) :: Value.ref (a 22) :: Value.ref (a 23) :: Value.int (q 24) :: Value.ref (a 25) :: Value.int (q 26) :: Value.ref (a 27) :: Value.int (q 28) :: Value.int (q 29) :: Value.int (q 30) :: Value.int (q 31) :: Value.int (q 32) :: Value.int (q 33) :: Value.ref (a 34) :: Value.ref (a 35) :: Value.ref (a 36) :: Value.ref (a 37) :: Value.ref (a 38) :: Value.ref (a 39) :: Value.ref (a 40) :: Value.int (q 41) :: Value.ref (a 42) :: Value.int z_3 :: Value.int (q 44) :: []))), ((a 42), .inl (T 0, 143, .inl (upd f42 ((q 43).toNatClampNeg) z_2)))] hP hD rfl
    have hz43 : z_3.toInt = (q 43).toInt + 1 := by rw [ez_3]; exact inc1 (n := 1000) (by omega) (by decide +kernel)
    refine lv_iload_n hx hb dX13_passes_41 rfl (lv_at hl 0 rfl) ?_
    exact W.iret hx hb hr (fun t ht hW => ⟨⟨_, (z_3, (upd f42 ((q 43).toNatClampNeg) z_2)), rfl, ⟨(show z_3.toInt = (q 43).toInt + 1 from (by first | omega | (subst_vars; omega))), (show (((q 44) : Int32).toInt = 0 → z_2 = f42 ((q 43).toNatClampNeg) ∧ ∀ j : Nat, (upd f42 ((q 43).toNatClampNeg) z_2) j = f42 j) ∧ (¬ ((q 44) : Int32).toInt = 0 → z_2 = x1 ∧ (upd f42 ((q 43).toNatClampNeg) z_2) ((q 43).toNatClampNeg) = x1 ∧ ∀ j : Nat, (j : Int) ≠ (q 43).toInt → (upd f42 ((q 43).toNatClampNeg) z_2) j = f42 j) from ⟨fun _ => ⟨ez_2, upd_same ez_2⟩, fun h9 => absurd (by omega) h9⟩)⟩, by rw [ht]; exact hP.sub [0, 1] rfl, hD.sub [0, 1] (by decide +kernel) rfl⟩, hS.F ht⟩) hS.2.2 dX13_passes_42
  · rw [fa_eq] at c_1
    try rw [ti_0] at c_1
    refine lv_iload_n hx hb dX13_passes_7 rfl (lv_at hl 1 rfl) ?_
    refine lv_goto (tgt := 20) hx hb dX13_passes_8 (by decide +kernel) ?_
    refine lv_istore_n (lv' := [(2, .int x1), (0, .ref h0), (1, .int x1)]) hx hb dX13_passes_20 rfl hl (by decide +kernel) rfl (fun ls hl => ?_)
    refine lv_aload_n hx hb dX13_passes_21 rfl (lv_at hl 1 rfl) ?_
    refine va_get (D := D) (ci := 10) (v := .ref (a 42)) (C := RX13) (T := TX13) (N := 45) hx hb hts in_X13_passes_X13 hown hE.1 hP 0 rfl rfl 42 (by decide +kernel) (hts (.fieldLink RX13 126 "ClauseBookModel" "kept" "[I") (List.mem_of_getElem? (i := 2) rfl)) (fun _ h9 => h9) rfl dX13_passes_22 ?_
    refine lv_aload_n hx hb dX13_passes_25 rfl (lv_at hl 1 rfl) ?_
    refine va_get (D := D) (ci := 10) (v := .int (q 43)) (C := RX13) (T := TX13) (N := 45) hx hb hts in_X13_passes_X13 hown hE.1 hP 0 rfl rfl 43 (by decide +kernel) (hts (.fieldLink RX13 426 "ClauseBookModel" "passed" "I") (List.mem_of_getElem? (i := 3) rfl)) (fun _ h9 => h9) rfl dX13_passes_26 ?_
    refine lv_iload_n hx hb dX13_passes_29 rfl (lv_at hl 0 rfl) ?_
    refine va_iast hx hb hE.1 hP hD hS 1 0 rfl rfl (by rw [vp_in_iff]; first | omega | (subst_vars; omega)) dX13_passes_30 (fun H locs hP hD hS => ?_)
    obtain ⟨hP, hD⟩ := wPD [(h0, .inr (10, (Value.int (q 0) :: Value.int (q 1) :: Value.int (q 2) :: Value.int (q 3) :: Value.int (q 4) :: Value.int (q 5) :: Value.int (q 6) :: Value.int (q 7) :: Value.ref (a 8) :: Value.ref (a 9) :: Value.ref (a 10) :: Value.ref (a 11) :: Value.ref (a 12) :: Value.ref (a 13) :: Value.int (q 14) :: Value.long v :: Value.long w :: Value.ref (a 17) :: Value.ref (a 18) :: Value.ref (a 19) :: Value.ref (a 20) :: Value.ref (a 21) :: Value.ref (a 22) :: Value.ref (a 23) :: Value.int (q 24) :: Value.ref (a 25) :: Value.int (q 26) :: Value.ref (a 27) :: Value.int (q 28) :: Value.int (q 29) :: Value.int (q 30) :: Value.int (q 31) :: Value.int (q 32) :: Value.int (q 33) :: Value.ref (a 34) :: Value.ref (a 35) :: Value.ref (a 36) :: Value.ref (a 37) :: Value.ref (a 38) :: Value.ref (a 39) :: Value.ref (a 40) :: Value.int (q 41) :: Value.ref (a 42) :: Value.int (q 43) :: Value.int (q 44) :: []))), ((a 42), .inl (T 0, 143, .inl (upd f42 ((q 43).toNatClampNeg) x1)))] hP hD rfl
    refine lv_aload_n hx hb dX13_passes_31 rfl (lv_at hl 1 rfl) ?_
    refine lv_dup hx hb dX13_passes_32 rfl ?_
    refine va_get (D := D) (ci := 10) (v := .int (q 43)) (C := RX13) (T := TX13) (N := 45) hx hb hts in_X13_passes_X13 hown hE.1 hP 0 rfl rfl 43 (by decide +kernel) (hts (.fieldLink RX13 426 "ClauseBookModel" "passed" "I") (List.mem_of_getElem? (i := 3) rfl)) (fun _ h9 => h9) rfl dX13_passes_33 ?_
    refine lv_iconst (v := 1) hx hb dX13_passes_36 (by decide +kernel) ?_
    refine lv_iadd hx hb dX13_passes_37 ?_
    refine lv_topi (fun z_4 ez_4 => ?_)
    refine va_put (D := D) (ci := 10) (v := .int z_4) (ty := .int) (C := RX13) (T := TX13) (N := 45) hx hb hts in_X13_passes_X13 tyX13 tyX13_ok nmX13 hown hE.1 hP hD hS 0 rfl rfl 43 (by decide +kernel) (hts (.fieldLink RX13 426 "ClauseBookModel" "passed" "I") (List.mem_of_getElem? (i := 3) rfl)) (fun _ h9 => h9) rfl (by decide +kernel) rfl rfl (Nat.le_of_ble_eq_true rfl) dX13_passes_38 (fun H locs hP hD hS => ?_)
    obtain ⟨hP, hD⟩ := wPD [(h0, .inr (10, (Value.int (q 0) :: Value.int (q 1) :: Value.int (q 2) :: Value.int (q 3) :: Value.int (q 4) :: Value.int (q 5) :: Value.int (q 6) :: Value.int (q 7) :: Value.ref (a 8) :: Value.ref (a 9) :: Value.ref (a 10) :: Value.ref (a 11) :: Value.ref (a 12) :: Value.ref (a 13) :: Value.int (q 14) :: Value.long v :: Value.long w :: Value.ref (a 17) :: Value.ref (a 18) :: Value.ref (a 19) :: Value.ref (a 20) :: Value.ref (a 21) :: Value.ref (a 22) :: Value.ref (a 23) :: Value.int (q 24) :: Value.ref (a 25) :: Value.int (q 26) :: Value.ref (a 27) :: Value.int (q 28) :: Value.int (q 29) :: Value.int (q 30) :: Value.int (q 31) :: Value.int (q 32) :: Value.int (q 33) :: Value.ref (a 34) :: Value.ref (a 35) :: Value.ref (a 36) :: Value.ref (a 37) :: Value.ref (a 38) :: Value.ref (a 39) :: Value.ref (a 40) :: Value.int (q 41) :: Value.ref (a 42) :: Value.int z_4 :: Value.int (q 44) :: []))), ((a 42), .inl (T 0, 143, .inl (upd f42 ((q 43).toNatClampNeg) x1)))] hP hD rfl
    have hz43 : z_4.toInt = (q 43).toInt + 1 := by rw [ez_4]; exact inc1 (n := 1000) (by omega) (by decide +kernel)
    refine lv_iload_n hx hb dX13_passes_41 rfl (lv_at hl 0 rfl) ?_
    exact W.iret hx hb hr (fun t ht hW => ⟨⟨_, (z_4, (upd f42 ((q 43).toNatClampNeg) x1)), rfl, ⟨(show z_4.toInt = (q 43).toInt + 1 from (by first | omega | (subst_vars; omega))), (show (((q 44) : Int32).toInt = 0 → x1 = f42 ((q 43).toNatClampNeg) ∧ ∀ j : Nat, (upd f42 ((q 43).toNatClampNeg) x1) j = f42 j) ∧ (¬ ((q 44) : Int32).toInt = 0 → x1 = x1 ∧ (upd f42 ((q 43).toNatClampNeg) x1) ((q 43).toNatClampNeg) = x1 ∧ ∀ j : Nat, (j : Int) ≠ (q 43).toInt → (upd f42 ((q 43).toNatClampNeg) x1) j = f42 j) from ⟨fun h9 => absurd h9 (by omega), fun _ => ⟨rfl, upd_at, upd_other (by omega)⟩⟩)⟩, by rw [ht]; exact hP.sub [0, 1] rfl, hD.sub [0, 1] (by decide +kernel) rfl⟩, hS.F ht⟩) hS.2.2 dX13_passes_42
theorem dX13_passesRow_0 : decode cX13_passesRow 0 = .ok (.iconst 0, 1) := by decide +kernel
theorem dX13_passesRow_1 : decode cX13_passesRow 1 = .ok (.istore_n 2, 1) := by decide +kernel
theorem dX13_passesRow_10 : decode cX13_passesRow 10 = .ok (.aload_n 0, 1) := by decide +kernel
theorem dX13_passesRow_11 : decode cX13_passesRow 11 = .ok (.aload_n 1, 1) := by decide +kernel
theorem dX13_passesRow_12 : decode cX13_passesRow 12 = .ok (.iload_n 2, 1) := by decide +kernel
theorem dX13_passesRow_13 : decode cX13_passesRow 13 = .ok (.iaload, 1) := by decide +kernel
theorem dX13_passesRow_14 : decode cX13_passesRow 14 = .ok (.invokevirtual 429, 3) := by decide +kernel
theorem dX13_passesRow_17 : decode cX13_passesRow 17 = .ok (.iastore, 1) := by decide +kernel
theorem dX13_passesRow_18 : decode cX13_passesRow 18 = .ok (.iinc 2 1, 3) := by decide +kernel
theorem dX13_passesRow_2 : decode cX13_passesRow 2 = .ok (.iload_n 2, 1) := by decide +kernel
theorem dX13_passesRow_21 : decode cX13_passesRow 21 = .ok (.goto (-19), 3) := by decide +kernel
theorem dX13_passesRow_24 : decode cX13_passesRow 24 = .ok (.return_, 1) := by decide +kernel
theorem dX13_passesRow_3 : decode cX13_passesRow 3 = .ok (.aload_n 1, 1) := by decide +kernel
theorem dX13_passesRow_4 : decode cX13_passesRow 4 = .ok (.arraylength, 1) := by decide +kernel
theorem dX13_passesRow_5 : decode cX13_passesRow 5 = .ok (.if_icmp .ge 19, 3) := by decide +kernel
theorem dX13_passesRow_8 : decode cX13_passesRow 8 = .ok (.aload_n 1, 1) := by decide +kernel
theorem dX13_passesRow_9 : decode cX13_passesRow 9 = .ok (.iload_n 2, 1) := by decide +kernel
set_option maxRecDepth 20000 in
theorem ggX13_passesRow_X13_passes : GoodIn wsX13_passesRow wsX13_passes := goodIn_r _ [5, 6, 7, 8, 9, 10, 11, 12, 13, 14, 15, 16, 17, 18, 19, 20, 21, 22, 23, 24, 25, 26, 27, 28, 29, 30, 31, 32, 33, 34, 35, 36, 37, 38, 39, 40, 41, 42, 43, 44, 45, 46, 47, 48, 49, 50, 51, 52, 53] rfl (by decide +kernel)
set_option maxRecDepth 20000 in
theorem gX13_passesRow_X13_passes : GoodIn wsX13_passesRow (wsV RX13 429 RX13 yX13_passes wsX13_passes) := goodIn_app (goodIn_r _ [1, 2, 3, 4] rfl (by decide +kernel)) ggX13_passesRow_X13_passes
theorem hv_X13_passes : yX13_passes.cls = RX13 ∧ yX13_passes.cls ≠ "java/lang/invoke/MethodHandle" ∧ yX13_passes.cls ≠ "java/lang/invoke/VarHandle" ∧ (parseMethodDescriptor yX13_passes.desc).map (fun d => d.parameters.length) = some 1 := by decide +kernel
set_option maxHeartbeats 4000000 in
set_option maxRecDepth 100000 in
theorem c_X13_passesRow_24 (l : Launch) (D : va_G) (T : Nat → ClassId) (sz : Nat) (h0 : Nat) (q : Nat → Int32) (v : Int64) (w : Int64) (a : Nat → Nat) (f42 : Nat → Int32) (o1 : Nat) (fo : Nat → Int32) (hp : 0 ≤ (q 43).toInt ∧ (q 43).toInt + 24 ≤ 143) : Met l yX13_passesRow wsX13_passesRow ({ frames := 1, cells := 0, slots := 0, locals := 22 }) (pW [.ref h0, .ref o1] D T [(h0, .inr (10, (Value.int (q 0) :: Value.int (q 1) :: Value.int (q 2) :: Value.int (q 3) :: Value.int (q 4) :: Value.int (q 5) :: Value.int (q 6) :: Value.int (q 7) :: Value.ref (a 8) :: Value.ref (a 9) :: Value.ref (a 10) :: Value.ref (a 11) :: Value.ref (a 12) :: Value.ref (a 13) :: Value.int (q 14) :: Value.long v :: Value.long w :: Value.ref (a 17) :: Value.ref (a 18) :: Value.ref (a 19) :: Value.ref (a 20) :: Value.ref (a 21) :: Value.ref (a 22) :: Value.ref (a 23) :: Value.int (q 24) :: Value.ref (a 25) :: Value.int (q 26) :: Value.ref (a 27) :: Value.int (q 28) :: Value.int (q 29) :: Value.int (q 30) :: Value.int (q 31) :: Value.int (q 32) :: Value.int (q 33) :: Value.ref (a 34) :: Value.ref (a 35) :: Value.ref (a 36) :: Value.ref (a 37) :: Value.ref (a 38) :: Value.ref (a 39) :: Value.ref (a 40) :: Value.int (q 41) :: Value.ref (a 42) :: Value.int (q 43) :: Value.int (q 44) :: []))), ((a 42), .inl (T 0, 143, .inl f42)), (o1, .inl (T 0, 24, .inl fo))] sz) (va_Qv (fun (u : Int32 × (Nat → Int32) × (Nat → Int32)) => u.1.toInt = (q 43).toInt + 24 ∧ (((q 44) : Int32).toInt = 0 → (∀ j : Nat, u.2.1 j = f42 j) ∧ ∀ j : Nat, j < 24 → u.2.2 j = f42 ((q 43).toNatClampNeg + j)) ∧ (¬ ((q 44) : Int32).toInt = 0 → (∀ j : Nat, u.2.2 j = fo j) ∧ (∀ j : Nat, j < 24 → u.2.1 ((q 43).toNatClampNeg + j) = fo j) ∧ ∀ j : Nat, j < (q 43).toNatClampNeg → u.2.1 j = f42 j)) (bW D (va_A [(h0, .inr (10, (Value.int (q 0) :: Value.int (q 1) :: Value.int (q 2) :: Value.int (q 3) :: Value.int (q 4) :: Value.int (q 5) :: Value.int (q 6) :: Value.int (q 7) :: Value.ref (a 8) :: Value.ref (a 9) :: Value.ref (a 10) :: Value.ref (a 11) :: Value.ref (a 12) :: Value.ref (a 13) :: Value.int (q 14) :: Value.long v :: Value.long w :: Value.ref (a 17) :: Value.ref (a 18) :: Value.ref (a 19) :: Value.ref (a 20) :: Value.ref (a 21) :: Value.ref (a 22) :: Value.ref (a 23) :: Value.int (q 24) :: Value.ref (a 25) :: Value.int (q 26) :: Value.ref (a 27) :: Value.int (q 28) :: Value.int (q 29) :: Value.int (q 30) :: Value.int (q 31) :: Value.int (q 32) :: Value.int (q 33) :: Value.ref (a 34) :: Value.ref (a 35) :: Value.ref (a 36) :: Value.ref (a 37) :: Value.ref (a 38) :: Value.ref (a 39) :: Value.ref (a 40) :: Value.int (q 41) :: Value.ref (a 42) :: Value.int (q 43) :: Value.int (q 44) :: []))), ((a 42), .inl (T 0, 143, .inl f42)), (o1, .inl (T 0, 24, .inl fo))] sz) (fun (u : Int32 × (Nat → Int32) × (Nat → Int32)) => [(h0, .inr (10, (Value.int (q 0) :: Value.int (q 1) :: Value.int (q 2) :: Value.int (q 3) :: Value.int (q 4) :: Value.int (q 5) :: Value.int (q 6) :: Value.int (q 7) :: Value.ref (a 8) :: Value.ref (a 9) :: Value.ref (a 10) :: Value.ref (a 11) :: Value.ref (a 12) :: Value.ref (a 13) :: Value.int (q 14) :: Value.long v :: Value.long w :: Value.ref (a 17) :: Value.ref (a 18) :: Value.ref (a 19) :: Value.ref (a 20) :: Value.ref (a 21) :: Value.ref (a 22) :: Value.ref (a 23) :: Value.int (q 24) :: Value.ref (a 25) :: Value.int (q 26) :: Value.ref (a 27) :: Value.int (q 28) :: Value.int (q 29) :: Value.int (q 30) :: Value.int (q 31) :: Value.int (q 32) :: Value.int (q 33) :: Value.ref (a 34) :: Value.ref (a 35) :: Value.ref (a 36) :: Value.ref (a 37) :: Value.ref (a 38) :: Value.ref (a 39) :: Value.ref (a 40) :: Value.int (q 41) :: Value.ref (a 42) :: Value.int u.1 :: Value.int (q 44) :: []))), ((a 42), .inl (T 0, 143, .inl u.2.1)), (o1, .inl (T 0, 24, .inl u.2.2))])) (va_A [(h0, .inr (10, (Value.int (q 0) :: Value.int (q 1) :: Value.int (q 2) :: Value.int (q 3) :: Value.int (q 4) :: Value.int (q 5) :: Value.int (q 6) :: Value.int (q 7) :: Value.ref (a 8) :: Value.ref (a 9) :: Value.ref (a 10) :: Value.ref (a 11) :: Value.ref (a 12) :: Value.ref (a 13) :: Value.int (q 14) :: Value.long v :: Value.long w :: Value.ref (a 17) :: Value.ref (a 18) :: Value.ref (a 19) :: Value.ref (a 20) :: Value.ref (a 21) :: Value.ref (a 22) :: Value.ref (a 23) :: Value.int (q 24) :: Value.ref (a 25) :: Value.int (q 26) :: Value.ref (a 27) :: Value.int (q 28) :: Value.int (q 29) :: Value.int (q 30) :: Value.int (q 31) :: Value.int (q 32) :: Value.int (q 33) :: Value.ref (a 34) :: Value.ref (a 35) :: Value.ref (a 36) :: Value.ref (a 37) :: Value.ref (a 38) :: Value.ref (a 39) :: Value.ref (a 40) :: Value.int (q 41) :: Value.ref (a 42) :: Value.int (q 43) :: Value.int (q 44) :: []))), ((a 42), .inl (T 0, 143, .inl f42)), (o1, .inl (T 0, 24, .inl fo))] sz)) 0 0 (va_A [(h0, .inr (10, (Value.int (q 0) :: Value.int (q 1) :: Value.int (q 2) :: Value.int (q 3) :: Value.int (q 4) :: Value.int (q 5) :: Value.int (q 6) :: Value.int (q 7) :: Value.ref (a 8) :: Value.ref (a 9) :: Value.ref (a 10) :: Value.ref (a 11) :: Value.ref (a 12) :: Value.ref (a 13) :: Value.int (q 14) :: Value.long v :: Value.long w :: Value.ref (a 17) :: Value.ref (a 18) :: Value.ref (a 19) :: Value.ref (a 20) :: Value.ref (a 21) :: Value.ref (a 22) :: Value.ref (a 23) :: Value.int (q 24) :: Value.ref (a 25) :: Value.int (q 26) :: Value.ref (a 27) :: Value.int (q 28) :: Value.int (q 29) :: Value.int (q 30) :: Value.int (q 31) :: Value.int (q 32) :: Value.int (q 33) :: Value.ref (a 34) :: Value.ref (a 35) :: Value.ref (a 36) :: Value.ref (a 37) :: Value.ref (a 38) :: Value.ref (a 39) :: Value.ref (a 40) :: Value.int (q 41) :: Value.ref (a 42) :: Value.int (q 43) :: Value.int (q 44) :: []))), ((a 42), .inl (T 0, 143, .inl f42)), (o1, .inl (T 0, 24, .inl fo))] sz) := by
  refine Met.ofW (cc := cX13_passesRow) (maxL := 3) (ret := none) (by decide +kernel) rfl ?_
  intro p e s m args below meth c s₁ B hml hv
  obtain ⟨rfl, hsz, hP, hE, hD0⟩ := hv
  have hx := B.exec
  have hb := B.bytes
  have hr := B.returns
  have hts := atoms_spec (ws := wsX13_passesRow) B.pre
  have hown : s.vm.findClass RX13 = some m.cls := findClass_of_methodNamed B.named
  have hlocks := B.notSynchronized
  subst hsz
  have hD := hD0.self (sz := s.heap.size)
  generalize hAe : va_A [(h0, .inr (10, (Value.int (q 0) :: Value.int (q 1) :: Value.int (q 2) :: Value.int (q 3) :: Value.int (q 4) :: Value.int (q 5) :: Value.int (q 6) :: Value.int (q 7) :: Value.ref (a 8) :: Value.ref (a 9) :: Value.ref (a 10) :: Value.ref (a 11) :: Value.ref (a 12) :: Value.ref (a 13) :: Value.int (q 14) :: Value.long v :: Value.long w :: Value.ref (a 17) :: Value.ref (a 18) :: Value.ref (a 19) :: Value.ref (a 20) :: Value.ref (a 21) :: Value.ref (a 22) :: Value.ref (a 23) :: Value.int (q 24) :: Value.ref (a 25) :: Value.int (q 26) :: Value.ref (a 27) :: Value.int (q 28) :: Value.int (q 29) :: Value.int (q 30) :: Value.int (q 31) :: Value.int (q 32) :: Value.int (q 33) :: Value.ref (a 34) :: Value.ref (a 35) :: Value.ref (a 36) :: Value.ref (a 37) :: Value.ref (a 38) :: Value.ref (a 39) :: Value.ref (a 40) :: Value.int (q 41) :: Value.ref (a 42) :: Value.int (q 43) :: Value.int (q 44) :: []))), ((a 42), .inl (T 0, 143, .inl f42)), (o1, .inl (T 0, 24, .inl fo))] s.heap.size = A at hD ⊢
  have hA : ∀ q : Nat, s.heap.size ≤ q → A q := fun q h => by rw [← hAe]; exact Or.inr h
  have hS : va_S A s.heap s.heap [] := va_S.rf
  have hP : va_P D vwCl [(h0, .inr (10, (Value.int (q 0) :: Value.int (q 1) :: Value.int (q 2) :: Value.int (q 3) :: Value.int (q 4) :: Value.int (q 5) :: Value.int (q 6) :: Value.int (q 7) :: Value.ref (a 8) :: Value.ref (a 9) :: Value.ref (a 10) :: Value.ref (a 11) :: Value.ref (a 12) :: Value.ref (a 13) :: Value.int (q 14) :: Value.long v :: Value.long w :: Value.ref (a 17) :: Value.ref (a 18) :: Value.ref (a 19) :: Value.ref (a 20) :: Value.ref (a 21) :: Value.ref (a 22) :: Value.ref (a 23) :: Value.int (q 24) :: Value.ref (a 25) :: Value.int (q 26) :: Value.ref (a 27) :: Value.int (q 28) :: Value.int (q 29) :: Value.int (q 30) :: Value.int (q 31) :: Value.int (q 32) :: Value.int (q 33) :: Value.ref (a 34) :: Value.ref (a 35) :: Value.ref (a 36) :: Value.ref (a 37) :: Value.ref (a 38) :: Value.ref (a 39) :: Value.ref (a 40) :: Value.int (q 41) :: Value.ref (a 42) :: Value.int (q 43) :: Value.int (q 44) :: []))), ((a 42), .inl (T 0, 143, .inl f42)), (o1, .inl (T 0, 24, .inl fo))] s.heap := hP
  have hl := lv_entry ([.ref h0, .ref o1]) (n := 3) (Nat.le_of_ble_eq_true rfl)
  rw [lg_entry_eq]
  generalize (lg_sl ([.ref h0, .ref o1]) ++ List.replicate (3 - (lg_sl ([.ref h0, .ref o1])).length) Slot.unset).toArray = ls at hl ⊢
  have hl : lv_has ls 3 [(0, .ref h0), (1, .ref o1)] := hl
  clear hD0
  refine lv_iconst (v := 0) hx hb dX13_passesRow_0 (by decide +kernel) ?_
  refine lv_istore_n (lv' := [(2, .int 0), (0, .ref h0), (1, .ref o1)]) hx hb dX13_passesRow_1 rfl hl (by decide +kernel) rfl (fun ls hl => ?_)
  refine loopW (σ := (Int32) × (Int32) × (Nat → Int32) × (Nat → Int32)) (fun x9 ls H locs => lv_has ls 3 [(2, .int x9.1), (0, .ref h0), (1, .ref o1)] ∧ va_P D vwCl [(h0, .inr (10, (Value.int (q 0) :: Value.int (q 1) :: Value.int (q 2) :: Value.int (q 3) :: Value.int (q 4) :: Value.int (q 5) :: Value.int (q 6) :: Value.int (q 7) :: Value.ref (a 8) :: Value.ref (a 9) :: Value.ref (a 10) :: Value.ref (a 11) :: Value.ref (a 12) :: Value.ref (a 13) :: Value.int (q 14) :: Value.long v :: Value.long w :: Value.ref (a 17) :: Value.ref (a 18) :: Value.ref (a 19) :: Value.ref (a 20) :: Value.ref (a 21) :: Value.ref (a 22) :: Value.ref (a 23) :: Value.int (q 24) :: Value.ref (a 25) :: Value.int (q 26) :: Value.ref (a 27) :: Value.int (q 28) :: Value.int (q 29) :: Value.int (q 30) :: Value.int (q 31) :: Value.int (q 32) :: Value.int (q 33) :: Value.ref (a 34) :: Value.ref (a 35) :: Value.ref (a 36) :: Value.ref (a 37) :: Value.ref (a 38) :: Value.ref (a 39) :: Value.ref (a 40) :: Value.int (q 41) :: Value.ref (a 42) :: Value.int x9.2.1 :: Value.int (q 44) :: []))), ((a 42), .inl (T 0, 143, .inl x9.2.2.1)), (o1, .inl (T 0, 24, .inl x9.2.2.2))] H ∧ va_D A [(h0, .inr (10, (Value.int (q 0) :: Value.int (q 1) :: Value.int (q 2) :: Value.int (q 3) :: Value.int (q 4) :: Value.int (q 5) :: Value.int (q 6) :: Value.int (q 7) :: Value.ref (a 8) :: Value.ref (a 9) :: Value.ref (a 10) :: Value.ref (a 11) :: Value.ref (a 12) :: Value.ref (a 13) :: Value.int (q 14) :: Value.long v :: Value.long w :: Value.ref (a 17) :: Value.ref (a 18) :: Value.ref (a 19) :: Value.ref (a 20) :: Value.ref (a 21) :: Value.ref (a 22) :: Value.ref (a 23) :: Value.int (q 24) :: Value.ref (a 25) :: Value.int (q 26) :: Value.ref (a 27) :: Value.int (q 28) :: Value.int (q 29) :: Value.int (q 30) :: Value.int (q 31) :: Value.int (q 32) :: Value.int (q 33) :: Value.ref (a 34) :: Value.ref (a 35) :: Value.ref (a 36) :: Value.ref (a 37) :: Value.ref (a 38) :: Value.ref (a 39) :: Value.ref (a 40) :: Value.int (q 41) :: Value.ref (a 42) :: Value.int x9.2.1 :: Value.int (q 44) :: []))), ((a 42), .inl (T 0, 143, .inl x9.2.2.1)), (o1, .inl (T 0, 24, .inl x9.2.2.2))] ∧ va_S A s.heap H locs ∧ ((0 ≤ x9.1.toInt ∧ x9.1.toInt ≤ 24 ∧ x9.2.1.toInt = (q 43).toInt + x9.1.toInt) ∧ (((q 44) : Int32).toInt = 0 → (∀ j : Nat, x9.2.2.1 j = f42 j) ∧ ∀ j : Nat, (j : Int) < x9.1.toInt → x9.2.2.2 j = f42 ((q 43).toNatClampNeg + j)) ∧ (¬ ((q 44) : Int32).toInt = 0 → (∀ j : Nat, x9.2.2.2 j = fo j) ∧ (∀ j : Nat, (j : Int) < x9.1.toInt → x9.2.2.1 ((q 43).toNatClampNeg + j) = fo j) ∧ ∀ j : Nat, j < (q 43).toNatClampNeg → x9.2.2.1 j = f42 j))) (fun x9 => (24 - x9.1.toInt).toNat) (fun x9 ls H locs hI ih => ?_) (0, (q 43), f42, fo) ls ⟨lv_sub hl [0, 1, 2] rfl, hP.sub [0, 1, 2] rfl, hD.sub [0, 1, 2] (by decide +kernel) rfl, hS, ⟨(by (try dsimp only); rw [ti_0]; omega), (fun _ => ⟨fun _ => rfl, fun j hj => absurd hj (by (try dsimp only); rw [ti_0]; omega)⟩), (fun _ => ⟨fun _ => rfl, fun j hj => absurd hj (by (try dsimp only); rw [ti_0]; omega), fun _ _ => rfl⟩)⟩⟩
  obtain ⟨ii, pi, g9, o9⟩ := x9
  obtain ⟨hl, hP, hD, hS, hinv⟩ := hI
  have hl : lv_has ls 3 [(2, .int ii), (0, .ref h0), (1, .ref o1)] := hl
  have hP : va_P D vwCl [(h0, .inr (10, (Value.int (q 0) :: Value.int (q 1) :: Value.int (q 2) :: Value.int (q 3) :: Value.int (q 4) :: Value.int (q 5) :: Value.int (q 6) :: Value.int (q 7) :: Value.ref (a 8) :: Value.ref (a 9) :: Value.ref (a 10) :: Value.ref (a 11) :: Value.ref (a 12) :: Value.ref (a 13) :: Value.int (q 14) :: Value.long v :: Value.long w :: Value.ref (a 17) :: Value.ref (a 18) :: Value.ref (a 19) :: Value.ref (a 20) :: Value.ref (a 21) :: Value.ref (a 22) :: Value.ref (a 23) :: Value.int (q 24) :: Value.ref (a 25) :: Value.int (q 26) :: Value.ref (a 27) :: Value.int (q 28) :: Value.int (q 29) :: Value.int (q 30) :: Value.int (q 31) :: Value.int (q 32) :: Value.int (q 33) :: Value.ref (a 34) :: Value.ref (a 35) :: Value.ref (a 36) :: Value.ref (a 37) :: Value.ref (a 38) :: Value.ref (a 39) :: Value.ref (a 40) :: Value.int (q 41) :: Value.ref (a 42) :: Value.int pi :: Value.int (q 44) :: []))), ((a 42), .inl (T 0, 143, .inl g9)), (o1, .inl (T 0, 24, .inl o9))] H := hP
  have hD : va_D A [(h0, .inr (10, (Value.int (q 0) :: Value.int (q 1) :: Value.int (q 2) :: Value.int (q 3) :: Value.int (q 4) :: Value.int (q 5) :: Value.int (q 6) :: Value.int (q 7) :: Value.ref (a 8) :: Value.ref (a 9) :: Value.ref (a 10) :: Value.ref (a 11) :: Value.ref (a 12) :: Value.ref (a 13) :: Value.int (q 14) :: Value.long v :: Value.long w :: Value.ref (a 17) :: Value.ref (a 18) :: Value.ref (a 19) :: Value.ref (a 20) :: Value.ref (a 21) :: Value.ref (a 22) :: Value.ref (a 23) :: Value.int (q 24) :: Value.ref (a 25) :: Value.int (q 26) :: Value.ref (a 27) :: Value.int (q 28) :: Value.int (q 29) :: Value.int (q 30) :: Value.int (q 31) :: Value.int (q 32) :: Value.int (q 33) :: Value.ref (a 34) :: Value.ref (a 35) :: Value.ref (a 36) :: Value.ref (a 37) :: Value.ref (a 38) :: Value.ref (a 39) :: Value.ref (a 40) :: Value.int (q 41) :: Value.ref (a 42) :: Value.int pi :: Value.int (q 44) :: []))), ((a 42), .inl (T 0, 143, .inl g9)), (o1, .inl (T 0, 24, .inl o9))] := hD
  have hinv : (0 ≤ ii.toInt ∧ ii.toInt ≤ 24 ∧ pi.toInt = (q 43).toInt + ii.toInt) ∧ (((q 44) : Int32).toInt = 0 → (∀ j : Nat, g9 j = f42 j) ∧ ∀ j : Nat, (j : Int) < ii.toInt → o9 j = f42 ((q 43).toNatClampNeg + j)) ∧ (¬ ((q 44) : Int32).toInt = 0 → (∀ j : Nat, o9 j = fo j) ∧ (∀ j : Nat, (j : Int) < ii.toInt → g9 ((q 43).toNatClampNeg + j) = fo j) ∧ ∀ j : Nat, j < (q 43).toNatClampNeg → g9 j = f42 j) := hinv
  obtain ⟨hii, hRa, hRc⟩ := hinv
  refine lv_iload_n hx hb dX13_passesRow_2 rfl (lv_at hl 0 rfl) ?_
  refine lv_aload_n hx hb dX13_passesRow_3 rfl (lv_at hl 2 rfl) ?_
  refine va_alen (v := 24) hx hb hE.1 hP 2 0 rfl rfl rfl dX13_passesRow_4 ?_
  refine lv_icmp_ge (tgt := 24) hx hb dX13_passesRow_5 (by decide +kernel) (fun c_1 => ?_) (fun c_1 => ?_)
  · rw [fa_le] at c_1
    try rw [ti_24] at c_1
    exact W.vret hx hb hr (fun t ht hW => ⟨⟨(pi, g9, o9), rfl, ⟨(by (try dsimp only); omega), (fun h9 => ⟨(hRa h9).1, fun j hj => (hRa h9).2 j (by omega)⟩), (fun h9 => ⟨(hRc h9).1, (fun j hj => (hRc h9).2.1 j (by omega)), (hRc h9).2.2⟩)⟩, by rw [ht]; exact hP.sub [0, 1, 2] rfl, hD.sub [0, 1, 2] (by decide +kernel) rfl⟩, hS.F ht⟩) hS.2.2 dX13_passesRow_24
  · rw [fa_le] at c_1
    try rw [ti_24] at c_1
    refine lv_aload_n hx hb dX13_passesRow_8 rfl (lv_at hl 2 rfl) ?_
    refine lv_iload_n hx hb dX13_passesRow_9 rfl (lv_at hl 0 rfl) ?_
    refine lv_aload_n hx hb dX13_passesRow_10 rfl (lv_at hl 1 rfl) ?_
    refine lv_aload_n hx hb dX13_passesRow_11 rfl (lv_at hl 2 rfl) ?_
    refine lv_iload_n hx hb dX13_passesRow_12 rfl (lv_at hl 0 rfl) ?_
    refine va_iald hx hb hE.1 hP 2 0 rfl rfl (by rw [vp_in_iff]; first | omega | (subst_vars; omega)) dX13_passesRow_13 ?_
    refine lv_topi (fun z_2 ez_2 => ?_)
    have hFc := va_free (wc := [(h0, .inr (10, (Value.int (q 0) :: Value.int (q 1) :: Value.int (q 2) :: Value.int (q 3) :: Value.int (q 4) :: Value.int (q 5) :: Value.int (q 6) :: Value.int (q 7) :: Value.ref (a 8) :: Value.ref (a 9) :: Value.ref (a 10) :: Value.ref (a 11) :: Value.ref (a 12) :: Value.ref (a 13) :: Value.int (q 14) :: Value.long v :: Value.long w :: Value.ref (a 17) :: Value.ref (a 18) :: Value.ref (a 19) :: Value.ref (a 20) :: Value.ref (a 21) :: Value.ref (a 22) :: Value.ref (a 23) :: Value.int (q 24) :: Value.ref (a 25) :: Value.int (q 26) :: Value.ref (a 27) :: Value.int (q 28) :: Value.int (q 29) :: Value.int (q 30) :: Value.int (q 31) :: Value.int (q 32) :: Value.int (q 33) :: Value.ref (a 34) :: Value.ref (a 35) :: Value.ref (a 36) :: Value.ref (a 37) :: Value.ref (a 38) :: Value.ref (a 39) :: Value.ref (a 40) :: Value.int (q 41) :: Value.ref (a 42) :: Value.int pi :: Value.int (q 44) :: []))), ((a 42), .inl (T 0, 143, .inl g9))]) hD hS hA [0, 1] rfl
    refine va_calli (va_runV (As := [.int z_2]) (rest := [.int ii, .ref o1]) ⟨hx, hb, hml, hown, hts⟩ (c_X13_passes l D T _ h0 (fun k => cond (Nat.beq k 43) pi (q k)) v w a g9 z_2 (show 0 ≤ pi.toInt ∧ pi.toInt < 143 from (by omega))) (cwV 1 hts gX13_passesRow_X13_passes rfl rfl rfl hv_X13_passes ⟨Nat.le_of_ble_eq_true rfl, Nat.le_of_ble_eq_true rfl⟩) (pW_V (q := (RX13, TX13, 45)) (ci := 10) (q0 := 0) hP hE hD rfl rfl [0, 1] (by decide +kernel) rfl rfl) rfl rfl hl.1 rfl (lv_room (Nat.le_of_ble_eq_true rfl)) dX13_passesRow_14 ⟨Nat.le_of_ble_eq_true rfl, Nat.le_of_ble_eq_true rfl⟩) hS (fun q _ h => hFc q h) hFc (fun r_3 u_4 t H1 locs ht hvm hr_3 hB hz1 hk1 hS => ?_)
    obtain ⟨n_5, f_6⟩ := u_4
    obtain ⟨hi0_r_3, hi1_r_3⟩ := hr_3
    have hj0_r_3 : n_5.toInt = pi.toInt + 1 := hi0_r_3
    have hpA : (((q 44) : Int32).toInt = 0 → r_3 = g9 (pi.toNatClampNeg) ∧ ∀ j : Nat, f_6 j = g9 j) ∧ (¬ ((q 44) : Int32).toInt = 0 → r_3 = z_2 ∧ f_6 (pi.toNatClampNeg) = z_2 ∧ ∀ j : Nat, (j : Int) ≠ pi.toInt → f_6 j = g9 j) := hi1_r_3
    obtain ⟨hP1, hD1⟩ := hB
    rw [ht] at hP1
    obtain ⟨hP, hD⟩ := va_repl [(h0, .inr (10, (Value.int (q 0) :: Value.int (q 1) :: Value.int (q 2) :: Value.int (q 3) :: Value.int (q 4) :: Value.int (q 5) :: Value.int (q 6) :: Value.int (q 7) :: Value.ref (a 8) :: Value.ref (a 9) :: Value.ref (a 10) :: Value.ref (a 11) :: Value.ref (a 12) :: Value.ref (a 13) :: Value.int (q 14) :: Value.long v :: Value.long w :: Value.ref (a 17) :: Value.ref (a 18) :: Value.ref (a 19) :: Value.ref (a 20) :: Value.ref (a 21) :: Value.ref (a 22) :: Value.ref (a 23) :: Value.int (q 24) :: Value.ref (a 25) :: Value.int (q 26) :: Value.ref (a 27) :: Value.int (q 28) :: Value.int (q 29) :: Value.int (q 30) :: Value.int (q 31) :: Value.int (q 32) :: Value.int (q 33) :: Value.ref (a 34) :: Value.ref (a 35) :: Value.ref (a 36) :: Value.ref (a 37) :: Value.ref (a 38) :: Value.ref (a 39) :: Value.ref (a 40) :: Value.int (q 41) :: Value.ref (a 42) :: Value.int n_5 :: Value.int (q 44) :: []))), ((a 42), .inl (T 0, 143, .inl f_6)), (o1, .inl (T 0, 24, .inl o9))] hP hD [0, 1] [0, 1] rfl (by decide +kernel) rfl rfl rfl hk1 hP1
    clear hP1 hD1 hFc
    generalize H1 = H at hP hS ⊢
    have hpp : pi.toNatClampNeg = (q 43).toNatClampNeg + ii.toNatClampNeg := by
      have h1 := tn (x := pi) (by omega)
      have h2 := tn (x := (q 43)) (by omega)
      have h3 := tn (x := ii) (by omega)
      omega
    refine va_iast hx hb hE.1 hP hD hS 2 0 rfl rfl (by rw [vp_in_iff]; first | omega | (subst_vars; omega)) dX13_passesRow_17 (fun H locs hP hD hS => ?_)
    obtain ⟨hP, hD⟩ := wPD [(h0, .inr (10, (Value.int (q 0) :: Value.int (q 1) :: Value.int (q 2) :: Value.int (q 3) :: Value.int (q 4) :: Value.int (q 5) :: Value.int (q 6) :: Value.int (q 7) :: Value.ref (a 8) :: Value.ref (a 9) :: Value.ref (a 10) :: Value.ref (a 11) :: Value.ref (a 12) :: Value.ref (a 13) :: Value.int (q 14) :: Value.long v :: Value.long w :: Value.ref (a 17) :: Value.ref (a 18) :: Value.ref (a 19) :: Value.ref (a 20) :: Value.ref (a 21) :: Value.ref (a 22) :: Value.ref (a 23) :: Value.int (q 24) :: Value.ref (a 25) :: Value.int (q 26) :: Value.ref (a 27) :: Value.int (q 28) :: Value.int (q 29) :: Value.int (q 30) :: Value.int (q 31) :: Value.int (q 32) :: Value.int (q 33) :: Value.ref (a 34) :: Value.ref (a 35) :: Value.ref (a 36) :: Value.ref (a 37) :: Value.ref (a 38) :: Value.ref (a 39) :: Value.ref (a 40) :: Value.int (q 41) :: Value.ref (a 42) :: Value.int n_5 :: Value.int (q 44) :: []))), ((a 42), .inl (T 0, 143, .inl f_6)), (o1, .inl (T 0, 24, .inl (upd o9 (ii.toNatClampNeg) r_3)))] hP hD rfl
    obtain ⟨z_7, ez_7⟩ : ∃ y : Int32, y = ii + 1 := ⟨_, rfl⟩
    refine lv_iinc (v := z_7) (lv' := [(2, .int z_7), (0, .ref h0), (1, .ref o1)]) hx hb dX13_passesRow_18 hl (k := 0) rfl (by rw [ez_7]; rfl) (by decide +kernel) rfl (fun ls hl => ?_)
    have hi9 : z_7.toInt = ii.toInt + 1 := by rw [ez_7]; exact inc1 (n := 1000) (by omega) (by decide +kernel)
    refine lv_goto (tgt := 2) hx hb dX13_passesRow_21 (by decide +kernel) ?_
    exact ih (z_7, n_5, f_6, (upd o9 (ii.toNatClampNeg) r_3)) ls _ _ ⟨lv_sub hl [0, 1, 2] rfl, hP.sub [0, 1, 2] rfl, hD.sub [0, 1, 2] (by decide +kernel) rfl, hS, ⟨(by (try dsimp only); omega), (fun h9 => row0 (by omega) hi9 hpp (hRa h9).1 (hRa h9).2 (hpA.1 h9).1 (hpA.1 h9).2), (fun h9 => row1 (by omega) hi9 (by omega) hpp (hRc h9).1 (hRc h9).2.1 (hRc h9).2.2 (hpA.2 h9).1 ez_2 (hpA.2 h9).2.1 (hpA.2 h9).2.2)⟩⟩ (by (try dsimp only); rw [hi9]; omega)
set_option maxHeartbeats 4000000 in
set_option maxRecDepth 100000 in
theorem c_X13_passesRow_36 (l : Launch) (D : va_G) (T : Nat → ClassId) (sz : Nat) (h0 : Nat) (q : Nat → Int32) (v : Int64) (w : Int64) (a : Nat → Nat) (f42 : Nat → Int32) (o1 : Nat) (fo : Nat → Int32) (hp : 0 ≤ (q 43).toInt ∧ (q 43).toInt + 36 ≤ 143) : Met l yX13_passesRow wsX13_passesRow ({ frames := 1, cells := 0, slots := 0, locals := 22 }) (pW [.ref h0, .ref o1] D T [(h0, .inr (10, (Value.int (q 0) :: Value.int (q 1) :: Value.int (q 2) :: Value.int (q 3) :: Value.int (q 4) :: Value.int (q 5) :: Value.int (q 6) :: Value.int (q 7) :: Value.ref (a 8) :: Value.ref (a 9) :: Value.ref (a 10) :: Value.ref (a 11) :: Value.ref (a 12) :: Value.ref (a 13) :: Value.int (q 14) :: Value.long v :: Value.long w :: Value.ref (a 17) :: Value.ref (a 18) :: Value.ref (a 19) :: Value.ref (a 20) :: Value.ref (a 21) :: Value.ref (a 22) :: Value.ref (a 23) :: Value.int (q 24) :: Value.ref (a 25) :: Value.int (q 26) :: Value.ref (a 27) :: Value.int (q 28) :: Value.int (q 29) :: Value.int (q 30) :: Value.int (q 31) :: Value.int (q 32) :: Value.int (q 33) :: Value.ref (a 34) :: Value.ref (a 35) :: Value.ref (a 36) :: Value.ref (a 37) :: Value.ref (a 38) :: Value.ref (a 39) :: Value.ref (a 40) :: Value.int (q 41) :: Value.ref (a 42) :: Value.int (q 43) :: Value.int (q 44) :: []))), ((a 42), .inl (T 0, 143, .inl f42)), (o1, .inl (T 0, 36, .inl fo))] sz) (va_Qv (fun (u : Int32 × (Nat → Int32) × (Nat → Int32)) => u.1.toInt = (q 43).toInt + 36 ∧ (((q 44) : Int32).toInt = 0 → (∀ j : Nat, u.2.1 j = f42 j) ∧ ∀ j : Nat, j < 36 → u.2.2 j = f42 ((q 43).toNatClampNeg + j)) ∧ (¬ ((q 44) : Int32).toInt = 0 → (∀ j : Nat, u.2.2 j = fo j) ∧ (∀ j : Nat, j < 36 → u.2.1 ((q 43).toNatClampNeg + j) = fo j) ∧ ∀ j : Nat, j < (q 43).toNatClampNeg → u.2.1 j = f42 j)) (bW D (va_A [(h0, .inr (10, (Value.int (q 0) :: Value.int (q 1) :: Value.int (q 2) :: Value.int (q 3) :: Value.int (q 4) :: Value.int (q 5) :: Value.int (q 6) :: Value.int (q 7) :: Value.ref (a 8) :: Value.ref (a 9) :: Value.ref (a 10) :: Value.ref (a 11) :: Value.ref (a 12) :: Value.ref (a 13) :: Value.int (q 14) :: Value.long v :: Value.long w :: Value.ref (a 17) :: Value.ref (a 18) :: Value.ref (a 19) :: Value.ref (a 20) :: Value.ref (a 21) :: Value.ref (a 22) :: Value.ref (a 23) :: Value.int (q 24) :: Value.ref (a 25) :: Value.int (q 26) :: Value.ref (a 27) :: Value.int (q 28) :: Value.int (q 29) :: Value.int (q 30) :: Value.int (q 31) :: Value.int (q 32) :: Value.int (q 33) :: Value.ref (a 34) :: Value.ref (a 35) :: Value.ref (a 36) :: Value.ref (a 37) :: Value.ref (a 38) :: Value.ref (a 39) :: Value.ref (a 40) :: Value.int (q 41) :: Value.ref (a 42) :: Value.int (q 43) :: Value.int (q 44) :: []))), ((a 42), .inl (T 0, 143, .inl f42)), (o1, .inl (T 0, 36, .inl fo))] sz) (fun (u : Int32 × (Nat → Int32) × (Nat → Int32)) => [(h0, .inr (10, (Value.int (q 0) :: Value.int (q 1) :: Value.int (q 2) :: Value.int (q 3) :: Value.int (q 4) :: Value.int (q 5) :: Value.int (q 6) :: Value.int (q 7) :: Value.ref (a 8) :: Value.ref (a 9) :: Value.ref (a 10) :: Value.ref (a 11) :: Value.ref (a 12) :: Value.ref (a 13) :: Value.int (q 14) :: Value.long v :: Value.long w :: Value.ref (a 17) :: Value.ref (a 18) :: Value.ref (a 19) :: Value.ref (a 20) :: Value.ref (a 21) :: Value.ref (a 22) :: Value.ref (a 23) :: Value.int (q 24) :: Value.ref (a 25) :: Value.int (q 26) :: Value.ref (a 27) :: Value.int (q 28) :: Value.int (q 29) :: Value.int (q 30) :: Value.int (q 31) :: Value.int (q 32) :: Value.int (q 33) :: Value.ref (a 34) :: Value.ref (a 35) :: Value.ref (a 36) :: Value.ref (a 37) :: Value.ref (a 38) :: Value.ref (a 39) :: Value.ref (a 40) :: Value.int (q 41) :: Value.ref (a 42) :: Value.int u.1 :: Value.int (q 44) :: []))), ((a 42), .inl (T 0, 143, .inl u.2.1)), (o1, .inl (T 0, 36, .inl u.2.2))])) (va_A [(h0, .inr (10, (Value.int (q 0) :: Value.int (q 1) :: Value.int (q 2) :: Value.int (q 3) :: Value.int (q 4) :: Value.int (q 5) :: Value.int (q 6) :: Value.int (q 7) :: Value.ref (a 8) :: Value.ref (a 9) :: Value.ref (a 10) :: Value.ref (a 11) :: Value.ref (a 12) :: Value.ref (a 13) :: Value.int (q 14) :: Value.long v :: Value.long w :: Value.ref (a 17) :: Value.ref (a 18) :: Value.ref (a 19) :: Value.ref (a 20) :: Value.ref (a 21) :: Value.ref (a 22) :: Value.ref (a 23) :: Value.int (q 24) :: Value.ref (a 25) :: Value.int (q 26) :: Value.ref (a 27) :: Value.int (q 28) :: Value.int (q 29) :: Value.int (q 30) :: Value.int (q 31) :: Value.int (q 32) :: Value.int (q 33) :: Value.ref (a 34) :: Value.ref (a 35) :: Value.ref (a 36) :: Value.ref (a 37) :: Value.ref (a 38) :: Value.ref (a 39) :: Value.ref (a 40) :: Value.int (q 41) :: Value.ref (a 42) :: Value.int (q 43) :: Value.int (q 44) :: []))), ((a 42), .inl (T 0, 143, .inl f42)), (o1, .inl (T 0, 36, .inl fo))] sz)) 0 0 (va_A [(h0, .inr (10, (Value.int (q 0) :: Value.int (q 1) :: Value.int (q 2) :: Value.int (q 3) :: Value.int (q 4) :: Value.int (q 5) :: Value.int (q 6) :: Value.int (q 7) :: Value.ref (a 8) :: Value.ref (a 9) :: Value.ref (a 10) :: Value.ref (a 11) :: Value.ref (a 12) :: Value.ref (a 13) :: Value.int (q 14) :: Value.long v :: Value.long w :: Value.ref (a 17) :: Value.ref (a 18) :: Value.ref (a 19) :: Value.ref (a 20) :: Value.ref (a 21) :: Value.ref (a 22) :: Value.ref (a 23) :: Value.int (q 24) :: Value.ref (a 25) :: Value.int (q 26) :: Value.ref (a 27) :: Value.int (q 28) :: Value.int (q 29) :: Value.int (q 30) :: Value.int (q 31) :: Value.int (q 32) :: Value.int (q 33) :: Value.ref (a 34) :: Value.ref (a 35) :: Value.ref (a 36) :: Value.ref (a 37) :: Value.ref (a 38) :: Value.ref (a 39) :: Value.ref (a 40) :: Value.int (q 41) :: Value.ref (a 42) :: Value.int (q 43) :: Value.int (q 44) :: []))), ((a 42), .inl (T 0, 143, .inl f42)), (o1, .inl (T 0, 36, .inl fo))] sz) := by
  refine Met.ofW (cc := cX13_passesRow) (maxL := 3) (ret := none) (by decide +kernel) rfl ?_
  intro p e s m args below meth c s₁ B hml hv
  obtain ⟨rfl, hsz, hP, hE, hD0⟩ := hv
  have hx := B.exec
  have hb := B.bytes
  have hr := B.returns
  have hts := atoms_spec (ws := wsX13_passesRow) B.pre
  have hown : s.vm.findClass RX13 = some m.cls := findClass_of_methodNamed B.named
  have hlocks := B.notSynchronized
  subst hsz
  have hD := hD0.self (sz := s.heap.size)
  generalize hAe : va_A [(h0, .inr (10, (Value.int (q 0) :: Value.int (q 1) :: Value.int (q 2) :: Value.int (q 3) :: Value.int (q 4) :: Value.int (q 5) :: Value.int (q 6) :: Value.int (q 7) :: Value.ref (a 8) :: Value.ref (a 9) :: Value.ref (a 10) :: Value.ref (a 11) :: Value.ref (a 12) :: Value.ref (a 13) :: Value.int (q 14) :: Value.long v :: Value.long w :: Value.ref (a 17) :: Value.ref (a 18) :: Value.ref (a 19) :: Value.ref (a 20) :: Value.ref (a 21) :: Value.ref (a 22) :: Value.ref (a 23) :: Value.int (q 24) :: Value.ref (a 25) :: Value.int (q 26) :: Value.ref (a 27) :: Value.int (q 28) :: Value.int (q 29) :: Value.int (q 30) :: Value.int (q 31) :: Value.int (q 32) :: Value.int (q 33) :: Value.ref (a 34) :: Value.ref (a 35) :: Value.ref (a 36) :: Value.ref (a 37) :: Value.ref (a 38) :: Value.ref (a 39) :: Value.ref (a 40) :: Value.int (q 41) :: Value.ref (a 42) :: Value.int (q 43) :: Value.int (q 44) :: []))), ((a 42), .inl (T 0, 143, .inl f42)), (o1, .inl (T 0, 36, .inl fo))] s.heap.size = A at hD ⊢
  have hA : ∀ q : Nat, s.heap.size ≤ q → A q := fun q h => by rw [← hAe]; exact Or.inr h
  have hS : va_S A s.heap s.heap [] := va_S.rf
  have hP : va_P D vwCl [(h0, .inr (10, (Value.int (q 0) :: Value.int (q 1) :: Value.int (q 2) :: Value.int (q 3) :: Value.int (q 4) :: Value.int (q 5) :: Value.int (q 6) :: Value.int (q 7) :: Value.ref (a 8) :: Value.ref (a 9) :: Value.ref (a 10) :: Value.ref (a 11) :: Value.ref (a 12) :: Value.ref (a 13) :: Value.int (q 14) :: Value.long v :: Value.long w :: Value.ref (a 17) :: Value.ref (a 18) :: Value.ref (a 19) :: Value.ref (a 20) :: Value.ref (a 21) :: Value.ref (a 22) :: Value.ref (a 23) :: Value.int (q 24) :: Value.ref (a 25) :: Value.int (q 26) :: Value.ref (a 27) :: Value.int (q 28) :: Value.int (q 29) :: Value.int (q 30) :: Value.int (q 31) :: Value.int (q 32) :: Value.int (q 33) :: Value.ref (a 34) :: Value.ref (a 35) :: Value.ref (a 36) :: Value.ref (a 37) :: Value.ref (a 38) :: Value.ref (a 39) :: Value.ref (a 40) :: Value.int (q 41) :: Value.ref (a 42) :: Value.int (q 43) :: Value.int (q 44) :: []))), ((a 42), .inl (T 0, 143, .inl f42)), (o1, .inl (T 0, 36, .inl fo))] s.heap := hP
  have hl := lv_entry ([.ref h0, .ref o1]) (n := 3) (Nat.le_of_ble_eq_true rfl)
  rw [lg_entry_eq]
  generalize (lg_sl ([.ref h0, .ref o1]) ++ List.replicate (3 - (lg_sl ([.ref h0, .ref o1])).length) Slot.unset).toArray = ls at hl ⊢
  have hl : lv_has ls 3 [(0, .ref h0), (1, .ref o1)] := hl
  clear hD0
  refine lv_iconst (v := 0) hx hb dX13_passesRow_0 (by decide +kernel) ?_
  refine lv_istore_n (lv' := [(2, .int 0), (0, .ref h0), (1, .ref o1)]) hx hb dX13_passesRow_1 rfl hl (by decide +kernel) rfl (fun ls hl => ?_)
  refine loopW (σ := (Int32) × (Int32) × (Nat → Int32) × (Nat → Int32)) (fun x9 ls H locs => lv_has ls 3 [(2, .int x9.1), (0, .ref h0), (1, .ref o1)] ∧ va_P D vwCl [(h0, .inr (10, (Value.int (q 0) :: Value.int (q 1) :: Value.int (q 2) :: Value.int (q 3) :: Value.int (q 4) :: Value.int (q 5) :: Value.int (q 6) :: Value.int (q 7) :: Value.ref (a 8) :: Value.ref (a 9) :: Value.ref (a 10) :: Value.ref (a 11) :: Value.ref (a 12) :: Value.ref (a 13) :: Value.int (q 14) :: Value.long v :: Value.long w :: Value.ref (a 17) :: Value.ref (a 18) :: Value.ref (a 19) :: Value.ref (a 20) :: Value.ref (a 21) :: Value.ref (a 22) :: Value.ref (a 23) :: Value.int (q 24) :: Value.ref (a 25) :: Value.int (q 26) :: Value.ref (a 27) :: Value.int (q 28) :: Value.int (q 29) :: Value.int (q 30) :: Value.int (q 31) :: Value.int (q 32) :: Value.int (q 33) :: Value.ref (a 34) :: Value.ref (a 35) :: Value.ref (a 36) :: Value.ref (a 37) :: Value.ref (a 38) :: Value.ref (a 39) :: Value.ref (a 40) :: Value.int (q 41) :: Value.ref (a 42) :: Value.int x9.2.1 :: Value.int (q 44) :: []))), ((a 42), .inl (T 0, 143, .inl x9.2.2.1)), (o1, .inl (T 0, 36, .inl x9.2.2.2))] H ∧ va_D A [(h0, .inr (10, (Value.int (q 0) :: Value.int (q 1) :: Value.int (q 2) :: Value.int (q 3) :: Value.int (q 4) :: Value.int (q 5) :: Value.int (q 6) :: Value.int (q 7) :: Value.ref (a 8) :: Value.ref (a 9) :: Value.ref (a 10) :: Value.ref (a 11) :: Value.ref (a 12) :: Value.ref (a 13) :: Value.int (q 14) :: Value.long v :: Value.long w :: Value.ref (a 17) :: Value.ref (a 18) :: Value.ref (a 19) :: Value.ref (a 20) :: Value.ref (a 21) :: Value.ref (a 22) :: Value.ref (a 23) :: Value.int (q 24) :: Value.ref (a 25) :: Value.int (q 26) :: Value.ref (a 27) :: Value.int (q 28) :: Value.int (q 29) :: Value.int (q 30) :: Value.int (q 31) :: Value.int (q 32) :: Value.int (q 33) :: Value.ref (a 34) :: Value.ref (a 35) :: Value.ref (a 36) :: Value.ref (a 37) :: Value.ref (a 38) :: Value.ref (a 39) :: Value.ref (a 40) :: Value.int (q 41) :: Value.ref (a 42) :: Value.int x9.2.1 :: Value.int (q 44) :: []))), ((a 42), .inl (T 0, 143, .inl x9.2.2.1)), (o1, .inl (T 0, 36, .inl x9.2.2.2))] ∧ va_S A s.heap H locs ∧ ((0 ≤ x9.1.toInt ∧ x9.1.toInt ≤ 36 ∧ x9.2.1.toInt = (q 43).toInt + x9.1.toInt) ∧ (((q 44) : Int32).toInt = 0 → (∀ j : Nat, x9.2.2.1 j = f42 j) ∧ ∀ j : Nat, (j : Int) < x9.1.toInt → x9.2.2.2 j = f42 ((q 43).toNatClampNeg + j)) ∧ (¬ ((q 44) : Int32).toInt = 0 → (∀ j : Nat, x9.2.2.2 j = fo j) ∧ (∀ j : Nat, (j : Int) < x9.1.toInt → x9.2.2.1 ((q 43).toNatClampNeg + j) = fo j) ∧ ∀ j : Nat, j < (q 43).toNatClampNeg → x9.2.2.1 j = f42 j))) (fun x9 => (36 - x9.1.toInt).toNat) (fun x9 ls H locs hI ih => ?_) (0, (q 43), f42, fo) ls ⟨lv_sub hl [0, 1, 2] rfl, hP.sub [0, 1, 2] rfl, hD.sub [0, 1, 2] (by decide +kernel) rfl, hS, ⟨(by (try dsimp only); rw [ti_0]; omega), (fun _ => ⟨fun _ => rfl, fun j hj => absurd hj (by (try dsimp only); rw [ti_0]; omega)⟩), (fun _ => ⟨fun _ => rfl, fun j hj => absurd hj (by (try dsimp only); rw [ti_0]; omega), fun _ _ => rfl⟩)⟩⟩
  obtain ⟨ii, pi, g9, o9⟩ := x9
  obtain ⟨hl, hP, hD, hS, hinv⟩ := hI
  have hl : lv_has ls 3 [(2, .int ii), (0, .ref h0), (1, .ref o1)] := hl
  have hP : va_P D vwCl [(h0, .inr (10, (Value.int (q 0) :: Value.int (q 1) :: Value.int (q 2) :: Value.int (q 3) :: Value.int (q 4) :: Value.int (q 5) :: Value.int (q 6) :: Value.int (q 7) :: Value.ref (a 8) :: Value.ref (a 9) :: Value.ref (a 10) :: Value.ref (a 11) :: Value.ref (a 12) :: Value.ref (a 13) :: Value.int (q 14) :: Value.long v :: Value.long w :: Value.ref (a 17) :: Value.ref (a 18) :: Value.ref (a 19) :: Value.ref (a 20) :: Value.ref (a 21) :: Value.ref (a 22) :: Value.ref (a 23) :: Value.int (q 24) :: Value.ref (a 25) :: Value.int (q 26) :: Value.ref (a 27) :: Value.int (q 28) :: Value.int (q 29) :: Value.int (q 30) :: Value.int (q 31) :: Value.int (q 32) :: Value.int (q 33) :: Value.ref (a 34) :: Value.ref (a 35) :: Value.ref (a 36) :: Value.ref (a 37) :: Value.ref (a 38) :: Value.ref (a 39) :: Value.ref (a 40) :: Value.int (q 41) :: Value.ref (a 42) :: Value.int pi :: Value.int (q 44) :: []))), ((a 42), .inl (T 0, 143, .inl g9)), (o1, .inl (T 0, 36, .inl o9))] H := hP
  have hD : va_D A [(h0, .inr (10, (Value.int (q 0) :: Value.int (q 1) :: Value.int (q 2) :: Value.int (q 3) :: Value.int (q 4) :: Value.int (q 5) :: Value.int (q 6) :: Value.int (q 7) :: Value.ref (a 8) :: Value.ref (a 9) :: Value.ref (a 10) :: Value.ref (a 11) :: Value.ref (a 12) :: Value.ref (a 13) :: Value.int (q 14) :: Value.long v :: Value.long w :: Value.ref (a 17) :: Value.ref (a 18) :: Value.ref (a 19) :: Value.ref (a 20) :: Value.ref (a 21) :: Value.ref (a 22) :: Value.ref (a 23) :: Value.int (q 24) :: Value.ref (a 25) :: Value.int (q 26) :: Value.ref (a 27) :: Value.int (q 28) :: Value.int (q 29) :: Value.int (q 30) :: Value.int (q 31) :: Value.int (q 32) :: Value.int (q 33) :: Value.ref (a 34) :: Value.ref (a 35) :: Value.ref (a 36) :: Value.ref (a 37) :: Value.ref (a 38) :: Value.ref (a 39) :: Value.ref (a 40) :: Value.int (q 41) :: Value.ref (a 42) :: Value.int pi :: Value.int (q 44) :: []))), ((a 42), .inl (T 0, 143, .inl g9)), (o1, .inl (T 0, 36, .inl o9))] := hD
  have hinv : (0 ≤ ii.toInt ∧ ii.toInt ≤ 36 ∧ pi.toInt = (q 43).toInt + ii.toInt) ∧ (((q 44) : Int32).toInt = 0 → (∀ j : Nat, g9 j = f42 j) ∧ ∀ j : Nat, (j : Int) < ii.toInt → o9 j = f42 ((q 43).toNatClampNeg + j)) ∧ (¬ ((q 44) : Int32).toInt = 0 → (∀ j : Nat, o9 j = fo j) ∧ (∀ j : Nat, (j : Int) < ii.toInt → g9 ((q 43).toNatClampNeg + j) = fo j) ∧ ∀ j : Nat, j < (q 43).toNatClampNeg → g9 j = f42 j) := hinv
  obtain ⟨hii, hRa, hRc⟩ := hinv
  refine lv_iload_n hx hb dX13_passesRow_2 rfl (lv_at hl 0 rfl) ?_
  refine lv_aload_n hx hb dX13_passesRow_3 rfl (lv_at hl 2 rfl) ?_
  refine va_alen (v := 36) hx hb hE.1 hP 2 0 rfl rfl rfl dX13_passesRow_4 ?_
  refine lv_icmp_ge (tgt := 24) hx hb dX13_passesRow_5 (by decide +kernel) (fun c_1 => ?_) (fun c_1 => ?_)
  · rw [fa_le] at c_1
    try rw [ti_36] at c_1
    exact W.vret hx hb hr (fun t ht hW => ⟨⟨(pi, g9, o9), rfl, ⟨(by (try dsimp only); omega), (fun h9 => ⟨(hRa h9).1, fun j hj => (hRa h9).2 j (by omega)⟩), (fun h9 => ⟨(hRc h9).1, (fun j hj => (hRc h9).2.1 j (by omega)), (hRc h9).2.2⟩)⟩, by rw [ht]; exact hP.sub [0, 1, 2] rfl, hD.sub [0, 1, 2] (by decide +kernel) rfl⟩, hS.F ht⟩) hS.2.2 dX13_passesRow_24
  · rw [fa_le] at c_1
    try rw [ti_36] at c_1
    refine lv_aload_n hx hb dX13_passesRow_8 rfl (lv_at hl 2 rfl) ?_
    refine lv_iload_n hx hb dX13_passesRow_9 rfl (lv_at hl 0 rfl) ?_
    refine lv_aload_n hx hb dX13_passesRow_10 rfl (lv_at hl 1 rfl) ?_
    refine lv_aload_n hx hb dX13_passesRow_11 rfl (lv_at hl 2 rfl) ?_
    refine lv_iload_n hx hb dX13_passesRow_12 rfl (lv_at hl 0 rfl) ?_
    refine va_iald hx hb hE.1 hP 2 0 rfl rfl (by rw [vp_in_iff]; first | omega | (subst_vars; omega)) dX13_passesRow_13 ?_
    refine lv_topi (fun z_2 ez_2 => ?_)
    have hFc := va_free (wc := [(h0, .inr (10, (Value.int (q 0) :: Value.int (q 1) :: Value.int (q 2) :: Value.int (q 3) :: Value.int (q 4) :: Value.int (q 5) :: Value.int (q 6) :: Value.int (q 7) :: Value.ref (a 8) :: Value.ref (a 9) :: Value.ref (a 10) :: Value.ref (a 11) :: Value.ref (a 12) :: Value.ref (a 13) :: Value.int (q 14) :: Value.long v :: Value.long w :: Value.ref (a 17) :: Value.ref (a 18) :: Value.ref (a 19) :: Value.ref (a 20) :: Value.ref (a 21) :: Value.ref (a 22) :: Value.ref (a 23) :: Value.int (q 24) :: Value.ref (a 25) :: Value.int (q 26) :: Value.ref (a 27) :: Value.int (q 28) :: Value.int (q 29) :: Value.int (q 30) :: Value.int (q 31) :: Value.int (q 32) :: Value.int (q 33) :: Value.ref (a 34) :: Value.ref (a 35) :: Value.ref (a 36) :: Value.ref (a 37) :: Value.ref (a 38) :: Value.ref (a 39) :: Value.ref (a 40) :: Value.int (q 41) :: Value.ref (a 42) :: Value.int pi :: Value.int (q 44) :: []))), ((a 42), .inl (T 0, 143, .inl g9))]) hD hS hA [0, 1] rfl
    refine va_calli (va_runV (As := [.int z_2]) (rest := [.int ii, .ref o1]) ⟨hx, hb, hml, hown, hts⟩ (c_X13_passes l D T _ h0 (fun k => cond (Nat.beq k 43) pi (q k)) v w a g9 z_2 (show 0 ≤ pi.toInt ∧ pi.toInt < 143 from (by omega))) (cwV 1 hts gX13_passesRow_X13_passes rfl rfl rfl hv_X13_passes ⟨Nat.le_of_ble_eq_true rfl, Nat.le_of_ble_eq_true rfl⟩) (pW_V (q := (RX13, TX13, 45)) (ci := 10) (q0 := 0) hP hE hD rfl rfl [0, 1] (by decide +kernel) rfl rfl) rfl rfl hl.1 rfl (lv_room (Nat.le_of_ble_eq_true rfl)) dX13_passesRow_14 ⟨Nat.le_of_ble_eq_true rfl, Nat.le_of_ble_eq_true rfl⟩) hS (fun q _ h => hFc q h) hFc (fun r_3 u_4 t H1 locs ht hvm hr_3 hB hz1 hk1 hS => ?_)
    obtain ⟨n_5, f_6⟩ := u_4
    obtain ⟨hi0_r_3, hi1_r_3⟩ := hr_3
    have hj0_r_3 : n_5.toInt = pi.toInt + 1 := hi0_r_3
    have hpA : (((q 44) : Int32).toInt = 0 → r_3 = g9 (pi.toNatClampNeg) ∧ ∀ j : Nat, f_6 j = g9 j) ∧ (¬ ((q 44) : Int32).toInt = 0 → r_3 = z_2 ∧ f_6 (pi.toNatClampNeg) = z_2 ∧ ∀ j : Nat, (j : Int) ≠ pi.toInt → f_6 j = g9 j) := hi1_r_3
    obtain ⟨hP1, hD1⟩ := hB
    rw [ht] at hP1
    obtain ⟨hP, hD⟩ := va_repl [(h0, .inr (10, (Value.int (q 0) :: Value.int (q 1) :: Value.int (q 2) :: Value.int (q 3) :: Value.int (q 4) :: Value.int (q 5) :: Value.int (q 6) :: Value.int (q 7) :: Value.ref (a 8) :: Value.ref (a 9) :: Value.ref (a 10) :: Value.ref (a 11) :: Value.ref (a 12) :: Value.ref (a 13) :: Value.int (q 14) :: Value.long v :: Value.long w :: Value.ref (a 17) :: Value.ref (a 18) :: Value.ref (a 19) :: Value.ref (a 20) :: Value.ref (a 21) :: Value.ref (a 22) :: Value.ref (a 23) :: Value.int (q 24) :: Value.ref (a 25) :: Value.int (q 26) :: Value.ref (a 27) :: Value.int (q 28) :: Value.int (q 29) :: Value.int (q 30) :: Value.int (q 31) :: Value.int (q 32) :: Value.int (q 33) :: Value.ref (a 34) :: Value.ref (a 35) :: Value.ref (a 36) :: Value.ref (a 37) :: Value.ref (a 38) :: Value.ref (a 39) :: Value.ref (a 40) :: Value.int (q 41) :: Value.ref (a 42) :: Value.int n_5 :: Value.int (q 44) :: []))), ((a 42), .inl (T 0, 143, .inl f_6)), (o1, .inl (T 0, 36, .inl o9))] hP hD [0, 1] [0, 1] rfl (by decide +kernel) rfl rfl rfl hk1 hP1
    clear hP1 hD1 hFc
    generalize H1 = H at hP hS ⊢
    have hpp : pi.toNatClampNeg = (q 43).toNatClampNeg + ii.toNatClampNeg := by
      have h1 := tn (x := pi) (by omega)
      have h2 := tn (x := (q 43)) (by omega)
      have h3 := tn (x := ii) (by omega)
      omega
    refine va_iast hx hb hE.1 hP hD hS 2 0 rfl rfl (by rw [vp_in_iff]; first | omega | (subst_vars; omega)) dX13_passesRow_17 (fun H locs hP hD hS => ?_)
    obtain ⟨hP, hD⟩ := wPD [(h0, .inr (10, (Value.int (q 0) :: Value.int (q 1) :: Value.int (q 2) :: Value.int (q 3) :: Value.int (q 4) :: Value.int (q 5) :: Value.int (q 6) :: Value.int (q 7) :: Value.ref (a 8) :: Value.ref (a 9) :: Value.ref (a 10) :: Value.ref (a 11) :: Value.ref (a 12) :: Value.ref (a 13) :: Value.int (q 14) :: Value.long v :: Value.long w :: Value.ref (a 17) :: Value.ref (a 18) :: Value.ref (a 19) :: Value.ref (a 20) :: Value.ref (a 21) :: Value.ref (a 22) :: Value.ref (a 23) :: Value.int (q 24) :: Value.ref (a 25) :: Value.int (q 26) :: Value.ref (a 27) :: Value.int (q 28) :: Value.int (q 29) :: Value.int (q 30) :: Value.int (q 31) :: Value.int (q 32) :: Value.int (q 33) :: Value.ref (a 34) :: Value.ref (a 35) :: Value.ref (a 36) :: Value.ref (a 37) :: Value.ref (a 38) :: Value.ref (a 39) :: Value.ref (a 40) :: Value.int (q 41) :: Value.ref (a 42) :: Value.int n_5 :: Value.int (q 44) :: []))), ((a 42), .inl (T 0, 143, .inl f_6)), (o1, .inl (T 0, 36, .inl (upd o9 (ii.toNatClampNeg) r_3)))] hP hD rfl
    obtain ⟨z_7, ez_7⟩ : ∃ y : Int32, y = ii + 1 := ⟨_, rfl⟩
    refine lv_iinc (v := z_7) (lv' := [(2, .int z_7), (0, .ref h0), (1, .ref o1)]) hx hb dX13_passesRow_18 hl (k := 0) rfl (by rw [ez_7]; rfl) (by decide +kernel) rfl (fun ls hl => ?_)
    have hi9 : z_7.toInt = ii.toInt + 1 := by rw [ez_7]; exact inc1 (n := 1000) (by omega) (by decide +kernel)
    refine lv_goto (tgt := 2) hx hb dX13_passesRow_21 (by decide +kernel) ?_
    exact ih (z_7, n_5, f_6, (upd o9 (ii.toNatClampNeg) r_3)) ls _ _ ⟨lv_sub hl [0, 1, 2] rfl, hP.sub [0, 1, 2] rfl, hD.sub [0, 1, 2] (by decide +kernel) rfl, hS, ⟨(by (try dsimp only); omega), (fun h9 => row0 (by omega) hi9 hpp (hRa h9).1 (hRa h9).2 (hpA.1 h9).1 (hpA.1 h9).2), (fun h9 => row1 (by omega) hi9 (by omega) hpp (hRc h9).1 (hRc h9).2.1 (hRc h9).2.2 (hpA.2 h9).1 ez_2 (hpA.2 h9).2.1 (hpA.2 h9).2.2)⟩⟩ (by (try dsimp only); rw [hi9]; omega)
set_option maxHeartbeats 4000000 in
set_option maxRecDepth 100000 in
theorem c_X13_passesRow_3 (l : Launch) (D : va_G) (T : Nat → ClassId) (sz : Nat) (h0 : Nat) (q : Nat → Int32) (v : Int64) (w : Int64) (a : Nat → Nat) (f42 : Nat → Int32) (o1 : Nat) (fo : Nat → Int32) (hp : 0 ≤ (q 43).toInt ∧ (q 43).toInt + 3 ≤ 143) : Met l yX13_passesRow wsX13_passesRow ({ frames := 1, cells := 0, slots := 0, locals := 22 }) (pW [.ref h0, .ref o1] D T [(h0, .inr (10, (Value.int (q 0) :: Value.int (q 1) :: Value.int (q 2) :: Value.int (q 3) :: Value.int (q 4) :: Value.int (q 5) :: Value.int (q 6) :: Value.int (q 7) :: Value.ref (a 8) :: Value.ref (a 9) :: Value.ref (a 10) :: Value.ref (a 11) :: Value.ref (a 12) :: Value.ref (a 13) :: Value.int (q 14) :: Value.long v :: Value.long w :: Value.ref (a 17) :: Value.ref (a 18) :: Value.ref (a 19) :: Value.ref (a 20) :: Value.ref (a 21) :: Value.ref (a 22) :: Value.ref (a 23) :: Value.int (q 24) :: Value.ref (a 25) :: Value.int (q 26) :: Value.ref (a 27) :: Value.int (q 28) :: Value.int (q 29) :: Value.int (q 30) :: Value.int (q 31) :: Value.int (q 32) :: Value.int (q 33) :: Value.ref (a 34) :: Value.ref (a 35) :: Value.ref (a 36) :: Value.ref (a 37) :: Value.ref (a 38) :: Value.ref (a 39) :: Value.ref (a 40) :: Value.int (q 41) :: Value.ref (a 42) :: Value.int (q 43) :: Value.int (q 44) :: []))), ((a 42), .inl (T 0, 143, .inl f42)), (o1, .inl (T 0, 3, .inl fo))] sz) (va_Qv (fun (u : Int32 × (Nat → Int32) × (Nat → Int32)) => u.1.toInt = (q 43).toInt + 3 ∧ (((q 44) : Int32).toInt = 0 → (∀ j : Nat, u.2.1 j = f42 j) ∧ ∀ j : Nat, j < 3 → u.2.2 j = f42 ((q 43).toNatClampNeg + j)) ∧ (¬ ((q 44) : Int32).toInt = 0 → (∀ j : Nat, u.2.2 j = fo j) ∧ (∀ j : Nat, j < 3 → u.2.1 ((q 43).toNatClampNeg + j) = fo j) ∧ ∀ j : Nat, j < (q 43).toNatClampNeg → u.2.1 j = f42 j)) (bW D (va_A [(h0, .inr (10, (Value.int (q 0) :: Value.int (q 1) :: Value.int (q 2) :: Value.int (q 3) :: Value.int (q 4) :: Value.int (q 5) :: Value.int (q 6) :: Value.int (q 7) :: Value.ref (a 8) :: Value.ref (a 9) :: Value.ref (a 10) :: Value.ref (a 11) :: Value.ref (a 12) :: Value.ref (a 13) :: Value.int (q 14) :: Value.long v :: Value.long w :: Value.ref (a 17) :: Value.ref (a 18) :: Value.ref (a 19) :: Value.ref (a 20) :: Value.ref (a 21) :: Value.ref (a 22) :: Value.ref (a 23) :: Value.int (q 24) :: Value.ref (a 25) :: Value.int (q 26) :: Value.ref (a 27) :: Value.int (q 28) :: Value.int (q 29) :: Value.int (q 30) :: Value.int (q 31) :: Value.int (q 32) :: Value.int (q 33) :: Value.ref (a 34) :: Value.ref (a 35) :: Value.ref (a 36) :: Value.ref (a 37) :: Value.ref (a 38) :: Value.ref (a 39) :: Value.ref (a 40) :: Value.int (q 41) :: Value.ref (a 42) :: Value.int (q 43) :: Value.int (q 44) :: []))), ((a 42), .inl (T 0, 143, .inl f42)), (o1, .inl (T 0, 3, .inl fo))] sz) (fun (u : Int32 × (Nat → Int32) × (Nat → Int32)) => [(h0, .inr (10, (Value.int (q 0) :: Value.int (q 1) :: Value.int (q 2) :: Value.int (q 3) :: Value.int (q 4) :: Value.int (q 5) :: Value.int (q 6) :: Value.int (q 7) :: Value.ref (a 8) :: Value.ref (a 9) :: Value.ref (a 10) :: Value.ref (a 11) :: Value.ref (a 12) :: Value.ref (a 13) :: Value.int (q 14) :: Value.long v :: Value.long w :: Value.ref (a 17) :: Value.ref (a 18) :: Value.ref (a 19) :: Value.ref (a 20) :: Value.ref (a 21) :: Value.ref (a 22) :: Value.ref (a 23) :: Value.int (q 24) :: Value.ref (a 25) :: Value.int (q 26) :: Value.ref (a 27) :: Value.int (q 28) :: Value.int (q 29) :: Value.int (q 30) :: Value.int (q 31) :: Value.int (q 32) :: Value.int (q 33) :: Value.ref (a 34) :: Value.ref (a 35) :: Value.ref (a 36) :: Value.ref (a 37) :: Value.ref (a 38) :: Value.ref (a 39) :: Value.ref (a 40) :: Value.int (q 41) :: Value.ref (a 42) :: Value.int u.1 :: Value.int (q 44) :: []))), ((a 42), .inl (T 0, 143, .inl u.2.1)), (o1, .inl (T 0, 3, .inl u.2.2))])) (va_A [(h0, .inr (10, (Value.int (q 0) :: Value.int (q 1) :: Value.int (q 2) :: Value.int (q 3) :: Value.int (q 4) :: Value.int (q 5) :: Value.int (q 6) :: Value.int (q 7) :: Value.ref (a 8) :: Value.ref (a 9) :: Value.ref (a 10) :: Value.ref (a 11) :: Value.ref (a 12) :: Value.ref (a 13) :: Value.int (q 14) :: Value.long v :: Value.long w :: Value.ref (a 17) :: Value.ref (a 18) :: Value.ref (a 19) :: Value.ref (a 20) :: Value.ref (a 21) :: Value.ref (a 22) :: Value.ref (a 23) :: Value.int (q 24) :: Value.ref (a 25) :: Value.int (q 26) :: Value.ref (a 27) :: Value.int (q 28) :: Value.int (q 29) :: Value.int (q 30) :: Value.int (q 31) :: Value.int (q 32) :: Value.int (q 33) :: Value.ref (a 34) :: Value.ref (a 35) :: Value.ref (a 36) :: Value.ref (a 37) :: Value.ref (a 38) :: Value.ref (a 39) :: Value.ref (a 40) :: Value.int (q 41) :: Value.ref (a 42) :: Value.int (q 43) :: Value.int (q 44) :: []))), ((a 42), .inl (T 0, 143, .inl f42)), (o1, .inl (T 0, 3, .inl fo))] sz)) 0 0 (va_A [(h0, .inr (10, (Value.int (q 0) :: Value.int (q 1) :: Value.int (q 2) :: Value.int (q 3) :: Value.int (q 4) :: Value.int (q 5) :: Value.int (q 6) :: Value.int (q 7) :: Value.ref (a 8) :: Value.ref (a 9) :: Value.ref (a 10) :: Value.ref (a 11) :: Value.ref (a 12) :: Value.ref (a 13) :: Value.int (q 14) :: Value.long v :: Value.long w :: Value.ref (a 17) :: Value.ref (a 18) :: Value.ref (a 19) :: Value.ref (a 20) :: Value.ref (a 21) :: Value.ref (a 22) :: Value.ref (a 23) :: Value.int (q 24) :: Value.ref (a 25) :: Value.int (q 26) :: Value.ref (a 27) :: Value.int (q 28) :: Value.int (q 29) :: Value.int (q 30) :: Value.int (q 31) :: Value.int (q 32) :: Value.int (q 33) :: Value.ref (a 34) :: Value.ref (a 35) :: Value.ref (a 36) :: Value.ref (a 37) :: Value.ref (a 38) :: Value.ref (a 39) :: Value.ref (a 40) :: Value.int (q 41) :: Value.ref (a 42) :: Value.int (q 43) :: Value.int (q 44) :: []))), ((a 42), .inl (T 0, 143, .inl f42)), (o1, .inl (T 0, 3, .inl fo))] sz) := by
  refine Met.ofW (cc := cX13_passesRow) (maxL := 3) (ret := none) (by decide +kernel) rfl ?_
  intro p e s m args below meth c s₁ B hml hv
  obtain ⟨rfl, hsz, hP, hE, hD0⟩ := hv
  have hx := B.exec
  have hb := B.bytes
  have hr := B.returns
  have hts := atoms_spec (ws := wsX13_passesRow) B.pre
  have hown : s.vm.findClass RX13 = some m.cls := findClass_of_methodNamed B.named
  have hlocks := B.notSynchronized
  subst hsz
  have hD := hD0.self (sz := s.heap.size)
  generalize hAe : va_A [(h0, .inr (10, (Value.int (q 0) :: Value.int (q 1) :: Value.int (q 2) :: Value.int (q 3) :: Value.int (q 4) :: Value.int (q 5) :: Value.int (q 6) :: Value.int (q 7) :: Value.ref (a 8) :: Value.ref (a 9) :: Value.ref (a 10) :: Value.ref (a 11) :: Value.ref (a 12) :: Value.ref (a 13) :: Value.int (q 14) :: Value.long v :: Value.long w :: Value.ref (a 17) :: Value.ref (a 18) :: Value.ref (a 19) :: Value.ref (a 20) :: Value.ref (a 21) :: Value.ref (a 22) :: Value.ref (a 23) :: Value.int (q 24) :: Value.ref (a 25) :: Value.int (q 26) :: Value.ref (a 27) :: Value.int (q 28) :: Value.int (q 29) :: Value.int (q 30) :: Value.int (q 31) :: Value.int (q 32) :: Value.int (q 33) :: Value.ref (a 34) :: Value.ref (a 35) :: Value.ref (a 36) :: Value.ref (a 37) :: Value.ref (a 38) :: Value.ref (a 39) :: Value.ref (a 40) :: Value.int (q 41) :: Value.ref (a 42) :: Value.int (q 43) :: Value.int (q 44) :: []))), ((a 42), .inl (T 0, 143, .inl f42)), (o1, .inl (T 0, 3, .inl fo))] s.heap.size = A at hD ⊢
  have hA : ∀ q : Nat, s.heap.size ≤ q → A q := fun q h => by rw [← hAe]; exact Or.inr h
  have hS : va_S A s.heap s.heap [] := va_S.rf
  have hP : va_P D vwCl [(h0, .inr (10, (Value.int (q 0) :: Value.int (q 1) :: Value.int (q 2) :: Value.int (q 3) :: Value.int (q 4) :: Value.int (q 5) :: Value.int (q 6) :: Value.int (q 7) :: Value.ref (a 8) :: Value.ref (a 9) :: Value.ref (a 10) :: Value.ref (a 11) :: Value.ref (a 12) :: Value.ref (a 13) :: Value.int (q 14) :: Value.long v :: Value.long w :: Value.ref (a 17) :: Value.ref (a 18) :: Value.ref (a 19) :: Value.ref (a 20) :: Value.ref (a 21) :: Value.ref (a 22) :: Value.ref (a 23) :: Value.int (q 24) :: Value.ref (a 25) :: Value.int (q 26) :: Value.ref (a 27) :: Value.int (q 28) :: Value.int (q 29) :: Value.int (q 30) :: Value.int (q 31) :: Value.int (q 32) :: Value.int (q 33) :: Value.ref (a 34) :: Value.ref (a 35) :: Value.ref (a 36) :: Value.ref (a 37) :: Value.ref (a 38) :: Value.ref (a 39) :: Value.ref (a 40) :: Value.int (q 41) :: Value.ref (a 42) :: Value.int (q 43) :: Value.int (q 44) :: []))), ((a 42), .inl (T 0, 143, .inl f42)), (o1, .inl (T 0, 3, .inl fo))] s.heap := hP
  have hl := lv_entry ([.ref h0, .ref o1]) (n := 3) (Nat.le_of_ble_eq_true rfl)
  rw [lg_entry_eq]
  generalize (lg_sl ([.ref h0, .ref o1]) ++ List.replicate (3 - (lg_sl ([.ref h0, .ref o1])).length) Slot.unset).toArray = ls at hl ⊢
  have hl : lv_has ls 3 [(0, .ref h0), (1, .ref o1)] := hl
  clear hD0
  refine lv_iconst (v := 0) hx hb dX13_passesRow_0 (by decide +kernel) ?_
  refine lv_istore_n (lv' := [(2, .int 0), (0, .ref h0), (1, .ref o1)]) hx hb dX13_passesRow_1 rfl hl (by decide +kernel) rfl (fun ls hl => ?_)
  refine loopW (σ := (Int32) × (Int32) × (Nat → Int32) × (Nat → Int32)) (fun x9 ls H locs => lv_has ls 3 [(2, .int x9.1), (0, .ref h0), (1, .ref o1)] ∧ va_P D vwCl [(h0, .inr (10, (Value.int (q 0) :: Value.int (q 1) :: Value.int (q 2) :: Value.int (q 3) :: Value.int (q 4) :: Value.int (q 5) :: Value.int (q 6) :: Value.int (q 7) :: Value.ref (a 8) :: Value.ref (a 9) :: Value.ref (a 10) :: Value.ref (a 11) :: Value.ref (a 12) :: Value.ref (a 13) :: Value.int (q 14) :: Value.long v :: Value.long w :: Value.ref (a 17) :: Value.ref (a 18) :: Value.ref (a 19) :: Value.ref (a 20) :: Value.ref (a 21) :: Value.ref (a 22) :: Value.ref (a 23) :: Value.int (q 24) :: Value.ref (a 25) :: Value.int (q 26) :: Value.ref (a 27) :: Value.int (q 28) :: Value.int (q 29) :: Value.int (q 30) :: Value.int (q 31) :: Value.int (q 32) :: Value.int (q 33) :: Value.ref (a 34) :: Value.ref (a 35) :: Value.ref (a 36) :: Value.ref (a 37) :: Value.ref (a 38) :: Value.ref (a 39) :: Value.ref (a 40) :: Value.int (q 41) :: Value.ref (a 42) :: Value.int x9.2.1 :: Value.int (q 44) :: []))), ((a 42), .inl (T 0, 143, .inl x9.2.2.1)), (o1, .inl (T 0, 3, .inl x9.2.2.2))] H ∧ va_D A [(h0, .inr (10, (Value.int (q 0) :: Value.int (q 1) :: Value.int (q 2) :: Value.int (q 3) :: Value.int (q 4) :: Value.int (q 5) :: Value.int (q 6) :: Value.int (q 7) :: Value.ref (a 8) :: Value.ref (a 9) :: Value.ref (a 10) :: Value.ref (a 11) :: Value.ref (a 12) :: Value.ref (a 13) :: Value.int (q 14) :: Value.long v :: Value.long w :: Value.ref (a 17) :: Value.ref (a 18) :: Value.ref (a 19) :: Value.ref (a 20) :: Value.ref (a 21) :: Value.ref (a 22) :: Value.ref (a 23) :: Value.int (q 24) :: Value.ref (a 25) :: Value.int (q 26) :: Value.ref (a 27) :: Value.int (q 28) :: Value.int (q 29) :: Value.int (q 30) :: Value.int (q 31) :: Value.int (q 32) :: Value.int (q 33) :: Value.ref (a 34) :: Value.ref (a 35) :: Value.ref (a 36) :: Value.ref (a 37) :: Value.ref (a 38) :: Value.ref (a 39) :: Value.ref (a 40) :: Value.int (q 41) :: Value.ref (a 42) :: Value.int x9.2.1 :: Value.int (q 44) :: []))), ((a 42), .inl (T 0, 143, .inl x9.2.2.1)), (o1, .inl (T 0, 3, .inl x9.2.2.2))] ∧ va_S A s.heap H locs ∧ ((0 ≤ x9.1.toInt ∧ x9.1.toInt ≤ 3 ∧ x9.2.1.toInt = (q 43).toInt + x9.1.toInt) ∧ (((q 44) : Int32).toInt = 0 → (∀ j : Nat, x9.2.2.1 j = f42 j) ∧ ∀ j : Nat, (j : Int) < x9.1.toInt → x9.2.2.2 j = f42 ((q 43).toNatClampNeg + j)) ∧ (¬ ((q 44) : Int32).toInt = 0 → (∀ j : Nat, x9.2.2.2 j = fo j) ∧ (∀ j : Nat, (j : Int) < x9.1.toInt → x9.2.2.1 ((q 43).toNatClampNeg + j) = fo j) ∧ ∀ j : Nat, j < (q 43).toNatClampNeg → x9.2.2.1 j = f42 j))) (fun x9 => (3 - x9.1.toInt).toNat) (fun x9 ls H locs hI ih => ?_) (0, (q 43), f42, fo) ls ⟨lv_sub hl [0, 1, 2] rfl, hP.sub [0, 1, 2] rfl, hD.sub [0, 1, 2] (by decide +kernel) rfl, hS, ⟨(by (try dsimp only); rw [ti_0]; omega), (fun _ => ⟨fun _ => rfl, fun j hj => absurd hj (by (try dsimp only); rw [ti_0]; omega)⟩), (fun _ => ⟨fun _ => rfl, fun j hj => absurd hj (by (try dsimp only); rw [ti_0]; omega), fun _ _ => rfl⟩)⟩⟩
  obtain ⟨ii, pi, g9, o9⟩ := x9
  obtain ⟨hl, hP, hD, hS, hinv⟩ := hI
  have hl : lv_has ls 3 [(2, .int ii), (0, .ref h0), (1, .ref o1)] := hl
  have hP : va_P D vwCl [(h0, .inr (10, (Value.int (q 0) :: Value.int (q 1) :: Value.int (q 2) :: Value.int (q 3) :: Value.int (q 4) :: Value.int (q 5) :: Value.int (q 6) :: Value.int (q 7) :: Value.ref (a 8) :: Value.ref (a 9) :: Value.ref (a 10) :: Value.ref (a 11) :: Value.ref (a 12) :: Value.ref (a 13) :: Value.int (q 14) :: Value.long v :: Value.long w :: Value.ref (a 17) :: Value.ref (a 18) :: Value.ref (a 19) :: Value.ref (a 20) :: Value.ref (a 21) :: Value.ref (a 22) :: Value.ref (a 23) :: Value.int (q 24) :: Value.ref (a 25) :: Value.int (q 26) :: Value.ref (a 27) :: Value.int (q 28) :: Value.int (q 29) :: Value.int (q 30) :: Value.int (q 31) :: Value.int (q 32) :: Value.int (q 33) :: Value.ref (a 34) :: Value.ref (a 35) :: Value.ref (a 36) :: Value.ref (a 37) :: Value.ref (a 38) :: Value.ref (a 39) :: Value.ref (a 40) :: Value.int (q 41) :: Value.ref (a 42) :: Value.int pi :: Value.int (q 44) :: []))), ((a 42), .inl (T 0, 143, .inl g9)), (o1, .inl (T 0, 3, .inl o9))] H := hP
  have hD : va_D A [(h0, .inr (10, (Value.int (q 0) :: Value.int (q 1) :: Value.int (q 2) :: Value.int (q 3) :: Value.int (q 4) :: Value.int (q 5) :: Value.int (q 6) :: Value.int (q 7) :: Value.ref (a 8) :: Value.ref (a 9) :: Value.ref (a 10) :: Value.ref (a 11) :: Value.ref (a 12) :: Value.ref (a 13) :: Value.int (q 14) :: Value.long v :: Value.long w :: Value.ref (a 17) :: Value.ref (a 18) :: Value.ref (a 19) :: Value.ref (a 20) :: Value.ref (a 21) :: Value.ref (a 22) :: Value.ref (a 23) :: Value.int (q 24) :: Value.ref (a 25) :: Value.int (q 26) :: Value.ref (a 27) :: Value.int (q 28) :: Value.int (q 29) :: Value.int (q 30) :: Value.int (q 31) :: Value.int (q 32) :: Value.int (q 33) :: Value.ref (a 34) :: Value.ref (a 35) :: Value.ref (a 36) :: Value.ref (a 37) :: Value.ref (a 38) :: Value.ref (a 39) :: Value.ref (a 40) :: Value.int (q 41) :: Value.ref (a 42) :: Value.int pi :: Value.int (q 44) :: []))), ((a 42), .inl (T 0, 143, .inl g9)), (o1, .inl (T 0, 3, .inl o9))] := hD
  have hinv : (0 ≤ ii.toInt ∧ ii.toInt ≤ 3 ∧ pi.toInt = (q 43).toInt + ii.toInt) ∧ (((q 44) : Int32).toInt = 0 → (∀ j : Nat, g9 j = f42 j) ∧ ∀ j : Nat, (j : Int) < ii.toInt → o9 j = f42 ((q 43).toNatClampNeg + j)) ∧ (¬ ((q 44) : Int32).toInt = 0 → (∀ j : Nat, o9 j = fo j) ∧ (∀ j : Nat, (j : Int) < ii.toInt → g9 ((q 43).toNatClampNeg + j) = fo j) ∧ ∀ j : Nat, j < (q 43).toNatClampNeg → g9 j = f42 j) := hinv
  obtain ⟨hii, hRa, hRc⟩ := hinv
  refine lv_iload_n hx hb dX13_passesRow_2 rfl (lv_at hl 0 rfl) ?_
  refine lv_aload_n hx hb dX13_passesRow_3 rfl (lv_at hl 2 rfl) ?_
  refine va_alen (v := 3) hx hb hE.1 hP 2 0 rfl rfl rfl dX13_passesRow_4 ?_
  refine lv_icmp_ge (tgt := 24) hx hb dX13_passesRow_5 (by decide +kernel) (fun c_1 => ?_) (fun c_1 => ?_)
  · rw [fa_le] at c_1
    try rw [ti_3] at c_1
    exact W.vret hx hb hr (fun t ht hW => ⟨⟨(pi, g9, o9), rfl, ⟨(by (try dsimp only); omega), (fun h9 => ⟨(hRa h9).1, fun j hj => (hRa h9).2 j (by omega)⟩), (fun h9 => ⟨(hRc h9).1, (fun j hj => (hRc h9).2.1 j (by omega)), (hRc h9).2.2⟩)⟩, by rw [ht]; exact hP.sub [0, 1, 2] rfl, hD.sub [0, 1, 2] (by decide +kernel) rfl⟩, hS.F ht⟩) hS.2.2 dX13_passesRow_24
  · rw [fa_le] at c_1
    try rw [ti_3] at c_1
    refine lv_aload_n hx hb dX13_passesRow_8 rfl (lv_at hl 2 rfl) ?_
    refine lv_iload_n hx hb dX13_passesRow_9 rfl (lv_at hl 0 rfl) ?_
    refine lv_aload_n hx hb dX13_passesRow_10 rfl (lv_at hl 1 rfl) ?_
    refine lv_aload_n hx hb dX13_passesRow_11 rfl (lv_at hl 2 rfl) ?_
    refine lv_iload_n hx hb dX13_passesRow_12 rfl (lv_at hl 0 rfl) ?_
    refine va_iald hx hb hE.1 hP 2 0 rfl rfl (by rw [vp_in_iff]; first | omega | (subst_vars; omega)) dX13_passesRow_13 ?_
    refine lv_topi (fun z_2 ez_2 => ?_)
    have hFc := va_free (wc := [(h0, .inr (10, (Value.int (q 0) :: Value.int (q 1) :: Value.int (q 2) :: Value.int (q 3) :: Value.int (q 4) :: Value.int (q 5) :: Value.int (q 6) :: Value.int (q 7) :: Value.ref (a 8) :: Value.ref (a 9) :: Value.ref (a 10) :: Value.ref (a 11) :: Value.ref (a 12) :: Value.ref (a 13) :: Value.int (q 14) :: Value.long v :: Value.long w :: Value.ref (a 17) :: Value.ref (a 18) :: Value.ref (a 19) :: Value.ref (a 20) :: Value.ref (a 21) :: Value.ref (a 22) :: Value.ref (a 23) :: Value.int (q 24) :: Value.ref (a 25) :: Value.int (q 26) :: Value.ref (a 27) :: Value.int (q 28) :: Value.int (q 29) :: Value.int (q 30) :: Value.int (q 31) :: Value.int (q 32) :: Value.int (q 33) :: Value.ref (a 34) :: Value.ref (a 35) :: Value.ref (a 36) :: Value.ref (a 37) :: Value.ref (a 38) :: Value.ref (a 39) :: Value.ref (a 40) :: Value.int (q 41) :: Value.ref (a 42) :: Value.int pi :: Value.int (q 44) :: []))), ((a 42), .inl (T 0, 143, .inl g9))]) hD hS hA [0, 1] rfl
    refine va_calli (va_runV (As := [.int z_2]) (rest := [.int ii, .ref o1]) ⟨hx, hb, hml, hown, hts⟩ (c_X13_passes l D T _ h0 (fun k => cond (Nat.beq k 43) pi (q k)) v w a g9 z_2 (show 0 ≤ pi.toInt ∧ pi.toInt < 143 from (by omega))) (cwV 1 hts gX13_passesRow_X13_passes rfl rfl rfl hv_X13_passes ⟨Nat.le_of_ble_eq_true rfl, Nat.le_of_ble_eq_true rfl⟩) (pW_V (q := (RX13, TX13, 45)) (ci := 10) (q0 := 0) hP hE hD rfl rfl [0, 1] (by decide +kernel) rfl rfl) rfl rfl hl.1 rfl (lv_room (Nat.le_of_ble_eq_true rfl)) dX13_passesRow_14 ⟨Nat.le_of_ble_eq_true rfl, Nat.le_of_ble_eq_true rfl⟩) hS (fun q _ h => hFc q h) hFc (fun r_3 u_4 t H1 locs ht hvm hr_3 hB hz1 hk1 hS => ?_)
    obtain ⟨n_5, f_6⟩ := u_4
    obtain ⟨hi0_r_3, hi1_r_3⟩ := hr_3
    have hj0_r_3 : n_5.toInt = pi.toInt + 1 := hi0_r_3
    have hpA : (((q 44) : Int32).toInt = 0 → r_3 = g9 (pi.toNatClampNeg) ∧ ∀ j : Nat, f_6 j = g9 j) ∧ (¬ ((q 44) : Int32).toInt = 0 → r_3 = z_2 ∧ f_6 (pi.toNatClampNeg) = z_2 ∧ ∀ j : Nat, (j : Int) ≠ pi.toInt → f_6 j = g9 j) := hi1_r_3
    obtain ⟨hP1, hD1⟩ := hB
    rw [ht] at hP1
    obtain ⟨hP, hD⟩ := va_repl [(h0, .inr (10, (Value.int (q 0) :: Value.int (q 1) :: Value.int (q 2) :: Value.int (q 3) :: Value.int (q 4) :: Value.int (q 5) :: Value.int (q 6) :: Value.int (q 7) :: Value.ref (a 8) :: Value.ref (a 9) :: Value.ref (a 10) :: Value.ref (a 11) :: Value.ref (a 12) :: Value.ref (a 13) :: Value.int (q 14) :: Value.long v :: Value.long w :: Value.ref (a 17) :: Value.ref (a 18) :: Value.ref (a 19) :: Value.ref (a 20) :: Value.ref (a 21) :: Value.ref (a 22) :: Value.ref (a 23) :: Value.int (q 24) :: Value.ref (a 25) :: Value.int (q 26) :: Value.ref (a 27) :: Value.int (q 28) :: Value.int (q 29) :: Value.int (q 30) :: Value.int (q 31) :: Value.int (q 32) :: Value.int (q 33) :: Value.ref (a 34) :: Value.ref (a 35) :: Value.ref (a 36) :: Value.ref (a 37) :: Value.ref (a 38) :: Value.ref (a 39) :: Value.ref (a 40) :: Value.int (q 41) :: Value.ref (a 42) :: Value.int n_5 :: Value.int (q 44) :: []))), ((a 42), .inl (T 0, 143, .inl f_6)), (o1, .inl (T 0, 3, .inl o9))] hP hD [0, 1] [0, 1] rfl (by decide +kernel) rfl rfl rfl hk1 hP1
    clear hP1 hD1 hFc
    generalize H1 = H at hP hS ⊢
    have hpp : pi.toNatClampNeg = (q 43).toNatClampNeg + ii.toNatClampNeg := by
      have h1 := tn (x := pi) (by omega)
      have h2 := tn (x := (q 43)) (by omega)
      have h3 := tn (x := ii) (by omega)
      omega
    refine va_iast hx hb hE.1 hP hD hS 2 0 rfl rfl (by rw [vp_in_iff]; first | omega | (subst_vars; omega)) dX13_passesRow_17 (fun H locs hP hD hS => ?_)
    obtain ⟨hP, hD⟩ := wPD [(h0, .inr (10, (Value.int (q 0) :: Value.int (q 1) :: Value.int (q 2) :: Value.int (q 3) :: Value.int (q 4) :: Value.int (q 5) :: Value.int (q 6) :: Value.int (q 7) :: Value.ref (a 8) :: Value.ref (a 9) :: Value.ref (a 10) :: Value.ref (a 11) :: Value.ref (a 12) :: Value.ref (a 13) :: Value.int (q 14) :: Value.long v :: Value.long w :: Value.ref (a 17) :: Value.ref (a 18) :: Value.ref (a 19) :: Value.ref (a 20) :: Value.ref (a 21) :: Value.ref (a 22) :: Value.ref (a 23) :: Value.int (q 24) :: Value.ref (a 25) :: Value.int (q 26) :: Value.ref (a 27) :: Value.int (q 28) :: Value.int (q 29) :: Value.int (q 30) :: Value.int (q 31) :: Value.int (q 32) :: Value.int (q 33) :: Value.ref (a 34) :: Value.ref (a 35) :: Value.ref (a 36) :: Value.ref (a 37) :: Value.ref (a 38) :: Value.ref (a 39) :: Value.ref (a 40) :: Value.int (q 41) :: Value.ref (a 42) :: Value.int n_5 :: Value.int (q 44) :: []))), ((a 42), .inl (T 0, 143, .inl f_6)), (o1, .inl (T 0, 3, .inl (upd o9 (ii.toNatClampNeg) r_3)))] hP hD rfl
    obtain ⟨z_7, ez_7⟩ : ∃ y : Int32, y = ii + 1 := ⟨_, rfl⟩
    refine lv_iinc (v := z_7) (lv' := [(2, .int z_7), (0, .ref h0), (1, .ref o1)]) hx hb dX13_passesRow_18 hl (k := 0) rfl (by rw [ez_7]; rfl) (by decide +kernel) rfl (fun ls hl => ?_)
    have hi9 : z_7.toInt = ii.toInt + 1 := by rw [ez_7]; exact inc1 (n := 1000) (by omega) (by decide +kernel)
    refine lv_goto (tgt := 2) hx hb dX13_passesRow_21 (by decide +kernel) ?_
    exact ih (z_7, n_5, f_6, (upd o9 (ii.toNatClampNeg) r_3)) ls _ _ ⟨lv_sub hl [0, 1, 2] rfl, hP.sub [0, 1, 2] rfl, hD.sub [0, 1, 2] (by decide +kernel) rfl, hS, ⟨(by (try dsimp only); omega), (fun h9 => row0 (by omega) hi9 hpp (hRa h9).1 (hRa h9).2 (hpA.1 h9).1 (hpA.1 h9).2), (fun h9 => row1 (by omega) hi9 (by omega) hpp (hRc h9).1 (hRc h9).2.1 (hRc h9).2.2 (hpA.2 h9).1 ez_2 (hpA.2 h9).2.1 (hpA.2 h9).2.2)⟩⟩ (by (try dsimp only); rw [hi9]; omega)
end
