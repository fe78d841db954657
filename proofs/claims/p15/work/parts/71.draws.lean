theorem loopWD {p : Program} {l : Launch} {e : Env} {R : Room} {s : State} {m : MethodId} {args : Array Value} {below : List Frame} {meth : Method} {c : Code} {H : Heap} {locs : List Loc} {cells slots : Nat} {Q : State → Prop} {pc : Nat} {cs : List Choice} {σ : Type} (I : σ → Array Slot → Heap → List Loc → Prop) (μ : σ → Nat) (step : ∀ (x : σ) (ls : Array Slot) (H : Heap) (locs : List Loc) (d0 : Drawn), s.drawn.sameBut d0 cs → I x ls H locs → (∀ (y : σ) (ls' : Array Slot) (H' : Heap) (locs' : List Loc) (d1 : Drawn), s.drawn.sameBut d1 cs → I y ls' H' locs' → μ y < μ x → W p l e R (s.setDrawn d1) m args below meth c H' locs' cells slots Q (F0 m pc ls' [])) → W p l e R (s.setDrawn d0) m args below meth c H locs cells slots Q (F0 m pc ls [])) (x : σ) (ls : Array Slot) (d0 : Drawn) (hd : s.drawn.sameBut d0 cs) (h : I x ls H locs) : W p l e R (s.setDrawn d0) m args below meth c H locs cells slots Q (F0 m pc ls []) := by
  have key : ∀ (n : Nat) (x : σ) (ls : Array Slot) (H : Heap) (locs : List Loc) (d0 : Drawn), s.drawn.sameBut d0 cs → μ x < n → I x ls H locs → W p l e R (s.setDrawn d0) m args below meth c H locs cells slots Q (F0 m pc ls []) := by
    intro n
    induction n with
    | zero => intro x ls H locs d0 hd h; exact absurd h (Nat.not_lt_zero _)
    | succ n ih => intro x ls H locs d0 hd h hI; exact step x ls H locs d0 hd hI (fun y ls' H' locs' d1 hd1 hy hlt => ih y ls' H' locs' d1 hd1 (by omega) hy)
  exact key _ x ls H locs d0 hd (Nat.lt_succ_self _) h
theorem lv_ldcwf {p : Program} {l : Launch} {e : Env} {R : Room} {s : State} {m : MethodId} {args : Array Value} {below : List Frame} {meth : Method} {c : Code} {H : Heap} {locs : List Loc} {cells slots : Nat} {Q : State → Prop} {pc : Nat} {cc : ByteArray} {ls : Array Slot} {rest : List Value} (hexec : p.tables.exec = Jvm.exec) (hb : c.code = cc) {own : String} {index : Nat} {v : UInt32} (hown : s.vm.findClass own = some m.cls) (hconst : (Jvm.Cond.constantFloat own index v).before args s = true) (hdg : decode cc pc = .ok (.ldc_w index, 3)) (k : W p l e R s m args below meth c H locs cells slots Q (F0 m (pc + 3) ls (.float v :: rest))) : W p l e R s m args below meth c H locs cells slots Q (F0 m pc ls rest) := by
  intro T hT X
  obtain ⟨t, a, b⟩ := k T hT X
  refine ⟨t, ?_, b⟩
  obtain ⟨kk, cf, hk, hcf, hcp⟩ := Cond.constantFloat_spec hown hconst
  obtain ⟨k', hk', he⟩ := X.warmed.alike.2.2 _ _ hk
  jvm_step X.here [hexec, (show decode c.code (F0 m pc ls rest).pc = .ok (.ldc_w index, 3) by rw [hb]; exact hdg), ldc_w.wp_float (s := T) (f := F0 m pc ls rest) X.here.top hk' (by rw [he]; exact hcf) hcp]
  exact a
theorem dJxf58ca_isNaN_12338_0 : decode cJxf58ca_isNaN_12338 0 = .ok (.fload_n 0, 1) := by decide +kernel
theorem dJxf58ca_isNaN_12338_1 : decode cJxf58ca_isNaN_12338 1 = .ok (.fload_n 0, 1) := by decide +kernel
theorem dJxf58ca_isNaN_12338_10 : decode cJxf58ca_isNaN_12338 10 = .ok (.iconst 0, 1) := by decide +kernel
theorem dJxf58ca_isNaN_12338_11 : decode cJxf58ca_isNaN_12338 11 = .ok (.ireturn, 1) := by decide +kernel
theorem dJxf58ca_isNaN_12338_2 : decode cJxf58ca_isNaN_12338 2 = .ok (.fcmp .l, 1) := by decide +kernel
theorem dJxf58ca_isNaN_12338_3 : decode cJxf58ca_isNaN_12338 3 = .ok (.ifCond .eq 7, 3) := by decide +kernel
theorem dJxf58ca_isNaN_12338_6 : decode cJxf58ca_isNaN_12338 6 = .ok (.iconst 1, 1) := by decide +kernel
theorem dJxf58ca_isNaN_12338_7 : decode cJxf58ca_isNaN_12338 7 = .ok (.goto 4, 3) := by decide +kernel
set_option maxHeartbeats 4000000 in
set_option maxRecDepth 100000 in
theorem c_Jxf58ca_isNaN_12338 (l : Launch) (D : va_G) (T : Nat → ClassId) (x0 : UInt32)  : Met l yJxf58ca_isNaN_12338 wsJxf58ca_isNaN_12338 ({ frames := 0, cells := 0, slots := 0, locals := 0 }) (pR [.float x0] D T []) (vp_Si (fun r => True)) 0 0 (fun _ => False) := by
  refine nw_ofWF (cc := cJxf58ca_isNaN_12338) (maxL := 1) (ret := (some .boolean)) (by decide +kernel) rfl ?_
  intro p e s m args below meth c s₁ B hml hv
  obtain ⟨rfl, hP, hE⟩ := hv
  have hx := B.exec
  have hb := B.bytes
  have hr := B.returns
  have hts := atoms_spec (ws := wsJxf58ca_isNaN_12338) B.pre
  have hown : s.vm.findClass RJxf58ca = some m.cls := findClass_of_methodNamed B.named
  have hlocks := B.notSynchronized
  have hP : va_P D vwCl [] s.heap := hP
  have hl := lv_entry ([.float x0]) (n := 1) (Nat.le_of_ble_eq_true rfl)
  rw [lg_entry_eq]
  generalize (lg_sl ([.float x0]) ++ List.replicate (1 - (lg_sl ([.float x0])).length) Slot.unset).toArray = ls at hl ⊢
  have hl : lv_has ls 1 [(0, .float x0)] := hl
  refine lv_fload_n hx hb dJxf58ca_isNaN_12338_0 rfl (lv_at hl 0 rfl) ?_
  refine lv_fload_n hx hb dJxf58ca_isNaN_12338_1 rfl (lv_at hl 0 rfl) ?_
  refine lv_fcmp hx hb dJxf58ca_isNaN_12338_2 ?_
  refine lv_topi (fun z_1 ez_1 => ?_)
  refine lv_if_eq (tgt := 10) hx hb dJxf58ca_isNaN_12338_3 (by decide +kernel) (fun c_2 => ?_) (fun c_2 => ?_)
  · rw [fa_eq] at c_2
    try rw [ti_0] at c_2
    refine lv_iconst (v := 0) hx hb dJxf58ca_isNaN_12338_10 (by decide +kernel) ?_
    exact W.zret hx hb hr rfl (fun t ht hW => ⟨_, rfl, trivial, ht⟩) (fun _ h => by cases h) dJxf58ca_isNaN_12338_11
  · rw [fa_eq] at c_2
    try rw [ti_0] at c_2
    refine lv_iconst (v := 1) hx hb dJxf58ca_isNaN_12338_6 (by decide +kernel) ?_
    refine lv_goto (tgt := 11) hx hb dJxf58ca_isNaN_12338_7 (by decide +kernel) ?_
    exact W.zret hx hb hr rfl (fun t ht hW => ⟨_, rfl, trivial, ht⟩) (fun _ h => by cases h) dJxf58ca_isNaN_12338_11
theorem dJxf58ca_floatToIntBits_5c35a_0 : decode cJxf58ca_floatToIntBits_5c35a 0 = .ok (.fload_n 0, 1) := by decide +kernel
theorem dJxf58ca_floatToIntBits_5c35a_1 : decode cJxf58ca_floatToIntBits_5c35a 1 = .ok (.invokestatic 59, 3) := by decide +kernel
theorem dJxf58ca_floatToIntBits_5c35a_11 : decode cJxf58ca_floatToIntBits_5c35a 11 = .ok (.ireturn, 1) := by decide +kernel
theorem dJxf58ca_floatToIntBits_5c35a_12 : decode cJxf58ca_floatToIntBits_5c35a 12 = .ok (.ldc 77, 2) := by decide +kernel
theorem dJxf58ca_floatToIntBits_5c35a_14 : decode cJxf58ca_floatToIntBits_5c35a 14 = .ok (.ireturn, 1) := by decide +kernel
theorem dJxf58ca_floatToIntBits_5c35a_4 : decode cJxf58ca_floatToIntBits_5c35a 4 = .ok (.ifCond .ne 8, 3) := by decide +kernel
theorem dJxf58ca_floatToIntBits_5c35a_7 : decode cJxf58ca_floatToIntBits_5c35a 7 = .ok (.fload_n 0, 1) := by decide +kernel
theorem dJxf58ca_floatToIntBits_5c35a_8 : decode cJxf58ca_floatToIntBits_5c35a 8 = .ok (.invokestatic 74, 3) := by decide +kernel
set_option maxRecDepth 20000 in
theorem ggJxf58ca_floatToIntBits_5c35a_Jxf58ca_isNaN_12338 : GoodIn wsJxf58ca_floatToIntBits_5c35a wsJxf58ca_isNaN_12338 := goodIn_r _ [9] rfl (by decide +kernel)
set_option maxRecDepth 20000 in
theorem gJxf58ca_floatToIntBits_5c35a_Jxf58ca_isNaN_12338 : GoodIn wsJxf58ca_floatToIntBits_5c35a (va_wsS RJxf58ca 59 yJxf58ca_isNaN_12338 wsJxf58ca_isNaN_12338) := goodIn_app (goodIn_of _ (by decide +kernel)) ggJxf58ca_floatToIntBits_5c35a_Jxf58ca_isNaN_12338
theorem hs_Jxf58ca_isNaN_12338 : yJxf58ca_isNaN_12338.cls ≠ "java/lang/invoke/MethodHandle" ∧ yJxf58ca_isNaN_12338.cls ≠ "java/lang/invoke/VarHandle" ∧ (parseMethodDescriptor yJxf58ca_isNaN_12338.desc).map (fun d => d.parameters.length) = some 1 := by decide +kernel
set_option maxHeartbeats 4000000 in
set_option maxRecDepth 100000 in
theorem c_Jxf58ca_floatToIntBits_5c35a (l : Launch) (D : va_G) (T : Nat → ClassId) (x0 : UInt32)  : Met l yJxf58ca_floatToIntBits_5c35a wsJxf58ca_floatToIntBits_5c35a ({ frames := 1, cells := 0, slots := 0, locals := 40 }) (pR [.float x0] D T []) (vp_Si (fun r => True)) 0 0 (fun _ => False) := by
  refine nw_ofWF (cc := cJxf58ca_floatToIntBits_5c35a) (maxL := 1) (ret := (some .int)) (by decide +kernel) rfl ?_
  intro p e s m args below meth c s₁ B hml hv
  obtain ⟨rfl, hP, hE⟩ := hv
  have hx := B.exec
  have hb := B.bytes
  have hr := B.returns
  have hts := atoms_spec (ws := wsJxf58ca_floatToIntBits_5c35a) B.pre
  have hown : s.vm.findClass RJxf58ca = some m.cls := findClass_of_methodNamed B.named
  have hlocks := B.notSynchronized
  have hP : va_P D vwCl [] s.heap := hP
  have hl := lv_entry ([.float x0]) (n := 1) (Nat.le_of_ble_eq_true rfl)
  rw [lg_entry_eq]
  generalize (lg_sl ([.float x0]) ++ List.replicate (1 - (lg_sl ([.float x0])).length) Slot.unset).toArray = ls at hl ⊢
  have hl : lv_has ls 1 [(0, .float x0)] := hl
  refine lv_fload_n hx hb dJxf58ca_floatToIntBits_5c35a_0 rfl (lv_at hl 0 rfl) ?_
  refine vp_callSi (W.runS (As := [.float x0]) (rest := []) ⟨hx, hb, hml, hown, hts⟩ (c_Jxf58ca_isNaN_12338 l D T x0) (va_cwS 1 hts gJxf58ca_floatToIntBits_5c35a_Jxf58ca_isNaN_12338 rfl rfl rfl hs_Jxf58ca_isNaN_12338 ⟨Nat.le_of_ble_eq_true rfl, Nat.le_of_ble_eq_true rfl⟩) (pR_S hP hE [] rfl) rfl rfl hl.1 rfl (lv_room (Nat.le_of_ble_eq_true rfl)) dJxf58ca_floatToIntBits_5c35a_1 ⟨Nat.le_of_ble_eq_true rfl, Nat.le_of_ble_eq_true rfl⟩) (fun r_1 hr_1 => ?_)
  refine lv_if_ne (tgt := 12) hx hb dJxf58ca_floatToIntBits_5c35a_4 (by decide +kernel) (fun c_2 => ?_) (fun c_2 => ?_)
  · rw [fa_eq] at c_2
    try rw [ti_0] at c_2
    refine lv_ldc (v := 2143289344) hx hb hown (hts (.constant RJxf58ca 77 (2143289344)) (List.mem_of_getElem? (i := 5) rfl)) dJxf58ca_floatToIntBits_5c35a_12 ?_
    exact W.iret hx hb hr (fun t ht hW => ⟨_, rfl, trivial, ht⟩) (fun _ h => by cases h) dJxf58ca_floatToIntBits_5c35a_14
  · rw [fa_eq] at c_2
    try rw [ti_0] at c_2
    refine lv_fload_n hx hb dJxf58ca_floatToIntBits_5c35a_7 rfl (lv_at hl 0 rfl) ?_
    refine vn_f2i hx hb (hml.trans hl.1.symm) hown (hts (.methodLink RJxf58ca 74 ⟨"java/lang/Float", "floatToRawIntBits", "(F)I"⟩) (List.mem_of_getElem? (i := 1) rfl)) (hts (.native ⟨"java/lang/Float", "floatToRawIntBits", "(F)I"⟩) (List.mem_of_getElem? (i := 2) rfl)) (hts (.static ⟨"java/lang/Float", "floatToRawIntBits", "(F)I"⟩) (List.mem_of_getElem? (i := 3) rfl)) (hts (.initialized "java/lang/Float") (List.mem_of_getElem? (i := 4) rfl)) (Nat.le_of_ble_eq_true rfl) (Nat.le_of_ble_eq_true rfl) dJxf58ca_floatToIntBits_5c35a_8 ?_
    exact W.iret hx hb hr (fun t ht hW => ⟨_, rfl, trivial, ht⟩) (fun _ h => by cases h) dJxf58ca_floatToIntBits_5c35a_11
theorem dJxe99ae_isNaN_b9ae7_0 : decode cJxe99ae_isNaN_b9ae7 0 = .ok (.dload_n 0, 1) := by decide +kernel
theorem dJxe99ae_isNaN_b9ae7_1 : decode cJxe99ae_isNaN_b9ae7 1 = .ok (.dload_n 0, 1) := by decide +kernel
theorem dJxe99ae_isNaN_b9ae7_10 : decode cJxe99ae_isNaN_b9ae7 10 = .ok (.iconst 0, 1) := by decide +kernel
theorem dJxe99ae_isNaN_b9ae7_11 : decode cJxe99ae_isNaN_b9ae7 11 = .ok (.ireturn, 1) := by decide +kernel
theorem dJxe99ae_isNaN_b9ae7_2 : decode cJxe99ae_isNaN_b9ae7 2 = .ok (.dcmp .l, 1) := by decide +kernel
theorem dJxe99ae_isNaN_b9ae7_3 : decode cJxe99ae_isNaN_b9ae7 3 = .ok (.ifCond .eq 7, 3) := by decide +kernel
theorem dJxe99ae_isNaN_b9ae7_6 : decode cJxe99ae_isNaN_b9ae7 6 = .ok (.iconst 1, 1) := by decide +kernel
theorem dJxe99ae_isNaN_b9ae7_7 : decode cJxe99ae_isNaN_b9ae7 7 = .ok (.goto 4, 3) := by decide +kernel
set_option maxHeartbeats 4000000 in
set_option maxRecDepth 100000 in
theorem c_Jxe99ae_isNaN_b9ae7 (l : Launch) (D : va_G) (T : Nat → ClassId) (x0 : UInt64)  : Met l yJxe99ae_isNaN_b9ae7 wsJxe99ae_isNaN_b9ae7 ({ frames := 0, cells := 0, slots := 0, locals := 0 }) (pR [.double x0] D T []) (vp_Si (fun r => True)) 0 0 (fun _ => False) := by
  refine nw_ofWF (cc := cJxe99ae_isNaN_b9ae7) (maxL := 2) (ret := (some .boolean)) (by decide +kernel) rfl ?_
  intro p e s m args below meth c s₁ B hml hv
  obtain ⟨rfl, hP, hE⟩ := hv
  have hx := B.exec
  have hb := B.bytes
  have hr := B.returns
  have hts := atoms_spec (ws := wsJxe99ae_isNaN_b9ae7) B.pre
  have hown : s.vm.findClass RJxe99ae = some m.cls := findClass_of_methodNamed B.named
  have hlocks := B.notSynchronized
  have hP : va_P D vwCl [] s.heap := hP
  have hl := lv_entry ([.double x0]) (n := 2) (Nat.le_of_ble_eq_true rfl)
  rw [lg_entry_eq]
  generalize (lg_sl ([.double x0]) ++ List.replicate (2 - (lg_sl ([.double x0])).length) Slot.unset).toArray = ls at hl ⊢
  have hl : lv_has ls 2 [(0, .double x0)] := hl
  refine lv_dload_n hx hb dJxe99ae_isNaN_b9ae7_0 rfl (lv_at hl 0 rfl) ?_
  refine lv_dload_n hx hb dJxe99ae_isNaN_b9ae7_1 rfl (lv_at hl 0 rfl) ?_
  refine lv_dcmp hx hb dJxe99ae_isNaN_b9ae7_2 ?_
  refine lv_topi (fun z_1 ez_1 => ?_)
  refine lv_if_eq (tgt := 10) hx hb dJxe99ae_isNaN_b9ae7_3 (by decide +kernel) (fun c_2 => ?_) (fun c_2 => ?_)
  · rw [fa_eq] at c_2
    try rw [ti_0] at c_2
    refine lv_iconst (v := 0) hx hb dJxe99ae_isNaN_b9ae7_10 (by decide +kernel) ?_
    exact W.zret hx hb hr rfl (fun t ht hW => ⟨_, rfl, trivial, ht⟩) (fun _ h => by cases h) dJxe99ae_isNaN_b9ae7_11
  · rw [fa_eq] at c_2
    try rw [ti_0] at c_2
    refine lv_iconst (v := 1) hx hb dJxe99ae_isNaN_b9ae7_6 (by decide +kernel) ?_
    refine lv_goto (tgt := 11) hx hb dJxe99ae_isNaN_b9ae7_7 (by decide +kernel) ?_
    exact W.zret hx hb hr rfl (fun t ht hW => ⟨_, rfl, trivial, ht⟩) (fun _ h => by cases h) dJxe99ae_isNaN_b9ae7_11
theorem dJxe99ae_doubleToLongBits_ccdee_0 : decode cJxe99ae_doubleToLongBits_ccdee 0 = .ok (.dload_n 0, 1) := by decide +kernel
theorem dJxe99ae_doubleToLongBits_ccdee_1 : decode cJxe99ae_doubleToLongBits_ccdee 1 = .ok (.invokestatic 122, 3) := by decide +kernel
theorem dJxe99ae_doubleToLongBits_ccdee_11 : decode cJxe99ae_doubleToLongBits_ccdee 11 = .ok (.lreturn, 1) := by decide +kernel
theorem dJxe99ae_doubleToLongBits_ccdee_12 : decode cJxe99ae_doubleToLongBits_ccdee 12 = .ok (.ldc2_w 137, 3) := by decide +kernel
theorem dJxe99ae_doubleToLongBits_ccdee_15 : decode cJxe99ae_doubleToLongBits_ccdee 15 = .ok (.lreturn, 1) := by decide +kernel
theorem dJxe99ae_doubleToLongBits_ccdee_4 : decode cJxe99ae_doubleToLongBits_ccdee 4 = .ok (.ifCond .ne 8, 3) := by decide +kernel
theorem dJxe99ae_doubleToLongBits_ccdee_7 : decode cJxe99ae_doubleToLongBits_ccdee 7 = .ok (.dload_n 0, 1) := by decide +kernel
theorem dJxe99ae_doubleToLongBits_ccdee_8 : decode cJxe99ae_doubleToLongBits_ccdee 8 = .ok (.invokestatic 134, 3) := by decide +kernel
set_option maxRecDepth 20000 in
theorem ggJxe99ae_doubleToLongBits_ccdee_Jxe99ae_isNaN_b9ae7 : GoodIn wsJxe99ae_doubleToLongBits_ccdee wsJxe99ae_isNaN_b9ae7 := goodIn_r _ [9] rfl (by decide +kernel)
set_option maxRecDepth 20000 in
theorem gJxe99ae_doubleToLongBits_ccdee_Jxe99ae_isNaN_b9ae7 : GoodIn wsJxe99ae_doubleToLongBits_ccdee (va_wsS RJxe99ae 122 yJxe99ae_isNaN_b9ae7 wsJxe99ae_isNaN_b9ae7) := goodIn_app (goodIn_of _ (by decide +kernel)) ggJxe99ae_doubleToLongBits_ccdee_Jxe99ae_isNaN_b9ae7
theorem hs_Jxe99ae_isNaN_b9ae7 : yJxe99ae_isNaN_b9ae7.cls ≠ "java/lang/invoke/MethodHandle" ∧ yJxe99ae_isNaN_b9ae7.cls ≠ "java/lang/invoke/VarHandle" ∧ (parseMethodDescriptor yJxe99ae_isNaN_b9ae7.desc).map (fun d => d.parameters.length) = some 1 := by decide +kernel
set_option maxHeartbeats 4000000 in
set_option maxRecDepth 100000 in
theorem c_Jxe99ae_doubleToLongBits_ccdee (l : Launch) (D : va_G) (T : Nat → ClassId) (x0 : UInt64)  : Met l yJxe99ae_doubleToLongBits_ccdee wsJxe99ae_doubleToLongBits_ccdee ({ frames := 1, cells := 0, slots := 0, locals := 40 }) (pR [.double x0] D T []) (vp_Sl (fun r => True)) 0 0 (fun _ => False) := by
  refine nw_ofWF (cc := cJxe99ae_doubleToLongBits_ccdee) (maxL := 2) (ret := (some .long)) (by decide +kernel) rfl ?_
  intro p e s m args below meth c s₁ B hml hv
  obtain ⟨rfl, hP, hE⟩ := hv
  have hx := B.exec
  have hb := B.bytes
  have hr := B.returns
  have hts := atoms_spec (ws := wsJxe99ae_doubleToLongBits_ccdee) B.pre
  have hown : s.vm.findClass RJxe99ae = some m.cls := findClass_of_methodNamed B.named
  have hlocks := B.notSynchronized
  have hP : va_P D vwCl [] s.heap := hP
  have hl := lv_entry ([.double x0]) (n := 2) (Nat.le_of_ble_eq_true rfl)
  rw [lg_entry_eq]
  generalize (lg_sl ([.double x0]) ++ List.replicate (2 - (lg_sl ([.double x0])).length) Slot.unset).toArray = ls at hl ⊢
  have hl : lv_has ls 2 [(0, .double x0)] := hl
  refine lv_dload_n hx hb dJxe99ae_doubleToLongBits_ccdee_0 rfl (lv_at hl 0 rfl) ?_
  refine vp_callSi (W.runS (As := [.double x0]) (rest := []) ⟨hx, hb, hml, hown, hts⟩ (c_Jxe99ae_isNaN_b9ae7 l D T x0) (va_cwS 1 hts gJxe99ae_doubleToLongBits_ccdee_Jxe99ae_isNaN_b9ae7 rfl rfl rfl hs_Jxe99ae_isNaN_b9ae7 ⟨Nat.le_of_ble_eq_true rfl, Nat.le_of_ble_eq_true rfl⟩) (pR_S hP hE [] rfl) rfl rfl hl.1 rfl (lv_room (Nat.le_of_ble_eq_true rfl)) dJxe99ae_doubleToLongBits_ccdee_1 ⟨Nat.le_of_ble_eq_true rfl, Nat.le_of_ble_eq_true rfl⟩) (fun r_1 hr_1 => ?_)
  refine lv_if_ne (tgt := 12) hx hb dJxe99ae_doubleToLongBits_ccdee_4 (by decide +kernel) (fun c_2 => ?_) (fun c_2 => ?_)
  · rw [fa_eq] at c_2
    try rw [ti_0] at c_2
    refine lv_ldc2 (v := 9221120237041090560) hx hb hown (hts (.constantLong RJxe99ae 137 (9221120237041090560)) (List.mem_of_getElem? (i := 5) rfl)) dJxe99ae_doubleToLongBits_ccdee_12 ?_
    exact W.lret hx hb hr (fun t ht hW => ⟨_, rfl, trivial, ht⟩) (fun _ h => by cases h) dJxe99ae_doubleToLongBits_ccdee_15
  · rw [fa_eq] at c_2
    try rw [ti_0] at c_2
    refine lv_dload_n hx hb dJxe99ae_doubleToLongBits_ccdee_7 rfl (lv_at hl 0 rfl) ?_
    refine vn_d2l hx hb (hml.trans hl.1.symm) hown (hts (.methodLink RJxe99ae 134 ⟨"java/lang/Double", "doubleToRawLongBits", "(D)J"⟩) (List.mem_of_getElem? (i := 1) rfl)) (hts (.native ⟨"java/lang/Double", "doubleToRawLongBits", "(D)J"⟩) (List.mem_of_getElem? (i := 2) rfl)) (hts (.static ⟨"java/lang/Double", "doubleToRawLongBits", "(D)J"⟩) (List.mem_of_getElem? (i := 3) rfl)) (hts (.initialized "java/lang/Double") (List.mem_of_getElem? (i := 4) rfl)) (Nat.le_of_ble_eq_true rfl) (Nat.le_of_ble_eq_true rfl) dJxe99ae_doubleToLongBits_ccdee_8 ?_
    exact W.lret hx hb hr (fun t ht hW => ⟨_, rfl, trivial, ht⟩) (fun _ h => by cases h) dJxe99ae_doubleToLongBits_ccdee_11
theorem dX13_cell_0 : decode cX13_cell 0 = .ok (.aload_n 0, 1) := by decide +kernel
theorem dX13_cell_1 : decode cX13_cell 1 = .ok (.iload_n 1, 1) := by decide +kernel
theorem dX13_cell_10 : decode cX13_cell 10 = .ok (.ifCond .eq 6, 3) := by decide +kernel
theorem dX13_cell_13 : decode cX13_cell 13 = .ok (.iload 5, 2) := by decide +kernel
theorem dX13_cell_15 : decode cX13_cell 15 = .ok (.ireturn, 1) := by decide +kernel
theorem dX13_cell_16 : decode cX13_cell 16 = .ok (.aload_n 0, 1) := by decide +kernel
theorem dX13_cell_17 : decode cX13_cell 17 = .ok (.getfield 104, 3) := by decide +kernel
theorem dX13_cell_2 : decode cX13_cell 2 = .ok (.iload_n 2, 1) := by decide +kernel
theorem dX13_cell_20 : decode cX13_cell 20 = .ok (.iload_n 1, 1) := by decide +kernel
theorem dX13_cell_21 : decode cX13_cell 21 = .ok (.iaload, 1) := by decide +kernel
theorem dX13_cell_22 : decode cX13_cell 22 = .ok (.ifCond .ne 14, 3) := by decide +kernel
theorem dX13_cell_25 : decode cX13_cell 25 = .ok (.lload_n 3, 1) := by decide +kernel
theorem dX13_cell_26 : decode cX13_cell 26 = .ok (.lload_n 3, 1) := by decide +kernel
theorem dX13_cell_27 : decode cX13_cell 27 = .ok (.l2i, 1) := by decide +kernel
theorem dX13_cell_28 : decode cX13_cell 28 = .ok (.i2l, 1) := by decide +kernel
theorem dX13_cell_29 : decode cX13_cell 29 = .ok (.lcmp, 1) := by decide +kernel
theorem dX13_cell_3 : decode cX13_cell 3 = .ok (.invokevirtual 410, 3) := by decide +kernel
theorem dX13_cell_30 : decode cX13_cell 30 = .ok (.ifCond .eq 6, 3) := by decide +kernel
theorem dX13_cell_33 : decode cX13_cell 33 = .ok (.bipush (-5), 2) := by decide +kernel
theorem dX13_cell_35 : decode cX13_cell 35 = .ok (.ireturn, 1) := by decide +kernel
theorem dX13_cell_36 : decode cX13_cell 36 = .ok (.aload_n 0, 1) := by decide +kernel
theorem dX13_cell_37 : decode cX13_cell 37 = .ok (.getfield 110, 3) := by decide +kernel
theorem dX13_cell_40 : decode cX13_cell 40 = .ok (.bipush 30, 2) := by decide +kernel
theorem dX13_cell_42 : decode cX13_cell 42 = .ok (.iload_n 1, 1) := by decide +kernel
theorem dX13_cell_43 : decode cX13_cell 43 = .ok (.imul, 1) := by decide +kernel
theorem dX13_cell_44 : decode cX13_cell 44 = .ok (.iload_n 2, 1) := by decide +kernel
theorem dX13_cell_45 : decode cX13_cell 45 = .ok (.iadd, 1) := by decide +kernel
theorem dX13_cell_46 : decode cX13_cell 46 = .ok (.lload_n 3, 1) := by decide +kernel
theorem dX13_cell_47 : decode cX13_cell 47 = .ok (.lastore, 1) := by decide +kernel
theorem dX13_cell_48 : decode cX13_cell 48 = .ok (.aload_n 0, 1) := by decide +kernel
theorem dX13_cell_49 : decode cX13_cell 49 = .ok (.getfield 113, 3) := by decide +kernel
theorem dX13_cell_52 : decode cX13_cell 52 = .ok (.bipush 30, 2) := by decide +kernel
theorem dX13_cell_54 : decode cX13_cell 54 = .ok (.iload_n 1, 1) := by decide +kernel
theorem dX13_cell_55 : decode cX13_cell 55 = .ok (.imul, 1) := by decide +kernel
theorem dX13_cell_56 : decode cX13_cell 56 = .ok (.iload_n 2, 1) := by decide +kernel
theorem dX13_cell_57 : decode cX13_cell 57 = .ok (.iadd, 1) := by decide +kernel
theorem dX13_cell_58 : decode cX13_cell 58 = .ok (.aload_n 0, 1) := by decide +kernel
theorem dX13_cell_59 : decode cX13_cell 59 = .ok (.getfield 104, 3) := by decide +kernel
theorem dX13_cell_6 : decode cX13_cell 6 = .ok (.istore 5, 2) := by decide +kernel
theorem dX13_cell_62 : decode cX13_cell 62 = .ok (.iload_n 1, 1) := by decide +kernel
theorem dX13_cell_63 : decode cX13_cell 63 = .ok (.iaload, 1) := by decide +kernel
theorem dX13_cell_64 : decode cX13_cell 64 = .ok (.iconst 2, 1) := by decide +kernel
theorem dX13_cell_65 : decode cX13_cell 65 = .ok (.if_icmp .ne 9, 3) := by decide +kernel
theorem dX13_cell_68 : decode cX13_cell 68 = .ok (.lload_n 3, 1) := by decide +kernel
theorem dX13_cell_69 : decode cX13_cell 69 = .ok (.l2f, 1) := by decide +kernel
theorem dX13_cell_70 : decode cX13_cell 70 = .ok (.f2d, 1) := by decide +kernel
theorem dX13_cell_71 : decode cX13_cell 71 = .ok (.goto 5, 3) := by decide +kernel
theorem dX13_cell_74 : decode cX13_cell 74 = .ok (.lload_n 3, 1) := by decide +kernel
theorem dX13_cell_75 : decode cX13_cell 75 = .ok (.l2d, 1) := by decide +kernel
theorem dX13_cell_76 : decode cX13_cell 76 = .ok (.dastore, 1) := by decide +kernel
theorem dX13_cell_77 : decode cX13_cell 77 = .ok (.iconst 1, 1) := by decide +kernel
theorem dX13_cell_78 : decode cX13_cell 78 = .ok (.ireturn, 1) := by decide +kernel
theorem dX13_cell_8 : decode cX13_cell 8 = .ok (.iload 5, 2) := by decide +kernel
set_option maxRecDepth 20000 in
theorem ggX13_cell_X13_wrong : GoodIn wsX13_cell wsX13_wrong := goodIn_r _ [8, 1, 9, 10, 11, 7, 12, 13, 14, 15, 16, 17, 18, 19, 20, 21, 22, 23, 24, 25, 26, 27, 28, 29, 30, 31, 32, 33, 34, 35, 36, 37, 38, 39, 40, 41, 42, 43, 44, 45, 46, 47, 48, 49, 50, 51, 52, 53, 54, 55, 56, 57, 58, 59, 60, 61] rfl (by decide +kernel)
set_option maxRecDepth 20000 in
theorem gX13_cell_X13_wrong : GoodIn wsX13_cell (wsV RX13 410 RX13 yX13_wrong wsX13_wrong) := goodIn_app (goodIn_r _ [4, 5, 6, 7] rfl (by decide +kernel)) ggX13_cell_X13_wrong
theorem hv_X13_wrong : yX13_wrong.cls = RX13 ∧ yX13_wrong.cls ≠ "java/lang/invoke/MethodHandle" ∧ yX13_wrong.cls ≠ "java/lang/invoke/VarHandle" ∧ (parseMethodDescriptor yX13_wrong.desc).map (fun d => d.parameters.length) = some 2 := by decide +kernel
set_option maxRecDepth 20000 in
theorem in_X13_cell_X13 : ∀ w ∈ wsX130, w ∈ wsX13_cell := sub_r [17, 18, 19, 20, 21, 22, 23, 24, 25, 26, 27, 28, 29, 30, 31, 32, 33, 34, 35, 36, 37, 38, 39, 40, 41, 42, 43, 44, 45, 46, 47, 48, 49, 50, 51, 52, 53, 54, 55, 56, 57, 58, 59, 60, 61] rfl
set_option maxHeartbeats 4000000 in
set_option maxRecDepth 100000 in
theorem c_X13_cell (l : Launch) (D : va_G) (T : Nat → ClassId) (sz : Nat) (h0 : Nat) (q : Nat → Int32) (v : Int64) (w : Int64) (a : Nat → Nat) (f34 : Nat → Int32) (f35 : Nat → Int32) (f36 : Nat → Int64) (f37 : Nat → UInt64) (x1 : Int32) (x2 : Int32) (x3 : Int64) (hsz : ∀ k : Nat, k < 4 → 0 ≤ (f35 k).toInt ∧ (f35 k).toInt ≤ 30) : MetD lw_cs l yX13_cell wsX13_cell ({ frames := 3, cells := 0, slots := 0, locals := 67 }) (pW [.ref h0, .int x1, .int x2, .long x3] D T [(h0, .inr (10, (Value.int (q 0) :: Value.int (q 1) :: Value.int (q 2) :: Value.int (q 3) :: Value.int (q 4) :: Value.int (q 5) :: Value.int (q 6) :: Value.int (q 7) :: Value.ref (a 8) :: Value.ref (a 9) :: Value.ref (a 10) :: Value.ref (a 11) :: Value.ref (a 12) :: Value.ref (a 13) :: Value.int (q 14) :: Value.long v :: Value.long w :: Value.ref (a 17) :: Value.ref (a 18) :: Value.ref (a 19) :: Value.ref (a 20) :: Value.ref (a 21) :: Value.ref (a 22) :: Value.ref (a 23) :: Value.int (q 24) :: Value.ref (a 25) :: Value.int (q 26) :: Value.ref (a 27) :: Value.int (q 28) :: Value.int (q 29) :: Value.int (q 30) :: Value.int (q 31) :: Value.int (q 32) :: Value.int (q 33) :: Value.ref (a 34) :: Value.ref (a 35) :: Value.ref (a 36) :: Value.ref (a 37) :: Value.ref (a 38) :: Value.ref (a 39) :: Value.ref (a 40) :: Value.int (q 41) :: Value.ref (a 42) :: Value.int (q 43) :: Value.int (q 44) :: []))), ((a 34), .inl (T 0, 4, .inl f34)), ((a 35), .inl (T 0, 4, .inl f35)), ((a 36), .inl (T 1, 120, .inr (.inl f36))), ((a 37), .inl (T 3, 120, .inr (.inr (.inr (.inl f37)))))] sz) (va_Qi (fun (r : Int32) (u : (Nat → Int64) × (Nat → UInt64)) => ((¬ (0 ≤ x1.toInt ∧ x1.toInt ≤ 3) → r.toInt = -2) ∧ ((0 ≤ x1.toInt ∧ x1.toInt ≤ 3) → ((f34 (x1.toNatClampNeg)).toInt < 0 → r.toInt = -11) ∧ (¬ (f34 (x1.toNatClampNeg)).toInt < 0 → ((0 ≤ x2.toInt ∧ x2.toInt < (f35 (x1.toNatClampNeg)).toInt) → ((f34 (x1.toNatClampNeg)).toInt = 0 ∧ ¬ x3.toInt = x3.toInt32.toInt → r.toInt = -5) ∧ (¬ ((f34 (x1.toNatClampNeg)).toInt = 0 ∧ ¬ x3.toInt = x3.toInt32.toInt) → r.toInt = 1)) ∧ (¬ (0 ≤ x2.toInt ∧ x2.toInt < (f35 (x1.toNatClampNeg)).toInt) → r.toInt = -12))))) (bW D (va_A [(h0, .inr (10, (Value.int (q 0) :: Value.int (q 1) :: Value.int (q 2) :: Value.int (q 3) :: Value.int (q 4) :: Value.int (q 5) :: Value.int (q 6) :: Value.int (q 7) :: Value.ref (a 8) :: Value.ref (a 9) :: Value.ref (a 10) :: Value.ref (a 11) :: Value.ref (a 12) :: Value.ref (a 13) :: Value.int (q 14) :: Value.long v :: Value.long w :: Value.ref (a 17) :: Value.ref (a 18) :: Value.ref (a 19) :: Value.ref (a 20) :: Value.ref (a 21) :: Value.ref (a 22) :: Value.ref (a 23) :: Value.int (q 24) :: Value.ref (a 25) :: Value.int (q 26) :: Value.ref (a 27) :: Value.int (q 28) :: Value.int (q 29) :: Value.int (q 30) :: Value.int (q 31) :: Value.int (q 32) :: Value.int (q 33) :: Value.ref (a 34) :: Value.ref (a 35) :: Value.ref (a 36) :: Value.ref (a 37) :: Value.ref (a 38) :: Value.ref (a 39) :: Value.ref (a 40) :: Value.int (q 41) :: Value.ref (a 42) :: Value.int (q 43) :: Value.int (q 44) :: []))), ((a 34), .inl (T 0, 4, .inl f34)), ((a 35), .inl (T 0, 4, .inl f35)), ((a 36), .inl (T 1, 120, .inr (.inl f36))), ((a 37), .inl (T 3, 120, .inr (.inr (.inr (.inl f37)))))] sz) (fun (u : (Nat → Int64) × (Nat → UInt64)) => [(h0, .inr (10, (Value.int (q 0) :: Value.int (q 1) :: Value.int (q 2) :: Value.int (q 3) :: Value.int (q 4) :: Value.int (q 5) :: Value.int (q 6) :: Value.int (q 7) :: Value.ref (a 8) :: Value.ref (a 9) :: Value.ref (a 10) :: Value.ref (a 11) :: Value.ref (a 12) :: Value.ref (a 13) :: Value.int (q 14) :: Value.long v :: Value.long w :: Value.ref (a 17) :: Value.ref (a 18) :: Value.ref (a 19) :: Value.ref (a 20) :: Value.ref (a 21) :: Value.ref (a 22) :: Value.ref (a 23) :: Value.int (q 24) :: Value.ref (a 25) :: Value.int (q 26) :: Value.ref (a 27) :: Value.int (q 28) :: Value.int (q 29) :: Value.int (q 30) :: Value.int (q 31) :: Value.int (q 32) :: Value.int (q 33) :: Value.ref (a 34) :: Value.ref (a 35) :: Value.ref (a 36) :: Value.ref (a 37) :: Value.ref (a 38) :: Value.ref (a 39) :: Value.ref (a 40) :: Value.int (q 41) :: Value.ref (a 42) :: Value.int (q 43) :: Value.int (q 44) :: []))), ((a 34), .inl (T 0, 4, .inl f34)), ((a 35), .inl (T 0, 4, .inl f35)), ((a 36), .inl (T 1, 120, .inr (.inl u.1))), ((a 37), .inl (T 3, 120, .inr (.inr (.inr (.inl u.2)))))])) (va_A [(h0, .inr (10, (Value.int (q 0) :: Value.int (q 1) :: Value.int (q 2) :: Value.int (q 3) :: Value.int (q 4) :: Value.int (q 5) :: Value.int (q 6) :: Value.int (q 7) :: Value.ref (a 8) :: Value.ref (a 9) :: Value.ref (a 10) :: Value.ref (a 11) :: Value.ref (a 12) :: Value.ref (a 13) :: Value.int (q 14) :: Value.long v :: Value.long w :: Value.ref (a 17) :: Value.ref (a 18) :: Value.ref (a 19) :: Value.ref (a 20) :: Value.ref (a 21) :: Value.ref (a 22) :: Value.ref (a 23) :: Value.int (q 24) :: Value.ref (a 25) :: Value.int (q 26) :: Value.ref (a 27) :: Value.int (q 28) :: Value.int (q 29) :: Value.int (q 30) :: Value.int (q 31) :: Value.int (q 32) :: Value.int (q 33) :: Value.ref (a 34) :: Value.ref (a 35) :: Value.ref (a 36) :: Value.ref (a 37) :: Value.ref (a 38) :: Value.ref (a 39) :: Value.ref (a 40) :: Value.int (q 41) :: Value.ref (a 42) :: Value.int (q 43) :: Value.int (q 44) :: []))), ((a 34), .inl (T 0, 4, .inl f34)), ((a 35), .inl (T 0, 4, .inl f35)), ((a 36), .inl (T 1, 120, .inr (.inl f36))), ((a 37), .inl (T 3, 120, .inr (.inr (.inr (.inl f37)))))] sz)) 0 0 (va_A [(h0, .inr (10, (Value.int (q 0) :: Value.int (q 1) :: Value.int (q 2) :: Value.int (q 3) :: Value.int (q 4) :: Value.int (q 5) :: Value.int (q 6) :: Value.int (q 7) :: Value.ref (a 8) :: Value.ref (a 9) :: Value.ref (a 10) :: Value.ref (a 11) :: Value.ref (a 12) :: Value.ref (a 13) :: Value.int (q 14) :: Value.long v :: Value.long w :: Value.ref (a 17) :: Value.ref (a 18) :: Value.ref (a 19) :: Value.ref (a 20) :: Value.ref (a 21) :: Value.ref (a 22) :: Value.ref (a 23) :: Value.int (q 24) :: Value.ref (a 25) :: Value.int (q 26) :: Value.ref (a 27) :: Value.int (q 28) :: Value.int (q 29) :: Value.int (q 30) :: Value.int (q 31) :: Value.int (q 32) :: Value.int (q 33) :: Value.ref (a 34) :: Value.ref (a 35) :: Value.ref (a 36) :: Value.ref (a 37) :: Value.ref (a 38) :: Value.ref (a 39) :: Value.ref (a 40) :: Value.int (q 41) :: Value.ref (a 42) :: Value.int (q 43) :: Value.int (q 44) :: []))), ((a 34), .inl (T 0, 4, .inl f34)), ((a 35), .inl (T 0, 4, .inl f35)), ((a 36), .inl (T 1, 120, .inr (.inl f36))), ((a 37), .inl (T 3, 120, .inr (.inr (.inr (.inl f37)))))] sz) := by
  refine MetD.ofW (cc := cX13_cell) (maxL := 6) (ret := (some .int)) (by decide +kernel) rfl ?_
  intro p e s m args below meth c s₁ B hml hv hd0
  obtain ⟨rfl, hsz, hP, hE0, hD0⟩ := hv
  have hx := B.exec
  have hb := B.bytes
  have hr := B.returns
  have hts0 := atoms_spec (ws := wsX13_cell) B.pre
  have hown0 : s.vm.findClass RX13 = some m.cls := findClass_of_methodNamed B.named
  have hlocks := B.notSynchronized
  subst hsz
  have hD := hD0.self (sz := s.heap.size)
  generalize hAe : va_A [(h0, .inr (10, (Value.int (q 0) :: Value.int (q 1) :: Value.int (q 2) :: Value.int (q 3) :: Value.int (q 4) :: Value.int (q 5) :: Value.int (q 6) :: Value.int (q 7) :: Value.ref (a 8) :: Value.ref (a 9) :: Value.ref (a 10) :: Value.ref (a 11) :: Value.ref (a 12) :: Value.ref (a 13) :: Value.int (q 14) :: Value.long v :: Value.long w :: Value.ref (a 17) :: Value.ref (a 18) :: Value.ref (a 19) :: Value.ref (a 20) :: Value.ref (a 21) :: Value.ref (a 22) :: Value.ref (a 23) :: Value.int (q 24) :: Value.ref (a 25) :: Value.int (q 26) :: Value.ref (a 27) :: Value.int (q 28) :: Value.int (q 29) :: Value.int (q 30) :: Value.int (q 31) :: Value.int (q 32) :: Value.int (q 33) :: Value.ref (a 34) :: Value.ref (a 35) :: Value.ref (a 36) :: Value.ref (a 37) :: Value.ref (a 38) :: Value.ref (a 39) :: Value.ref (a 40) :: Value.int (q 41) :: Value.ref (a 42) :: Value.int (q 43) :: Value.int (q 44) :: []))), ((a 34), .inl (T 0, 4, .inl f34)), ((a 35), .inl (T 0, 4, .inl f35)), ((a 36), .inl (T 1, 120, .inr (.inl f36))), ((a 37), .inl (T 3, 120, .inr (.inr (.inr (.inl f37)))))] s.heap.size = A at hD ⊢
  have hA : ∀ q : Nat, s.heap.size ≤ q → A q := fun q h => by rw [← hAe]; exact Or.inr h
  have hS : va_S A s.heap s.heap [] := va_S.rf
  have hP : va_P D vwCl [(h0, .inr (10, (Value.int (q 0) :: Value.int (q 1) :: Value.int (q 2) :: Value.int (q 3) :: Value.int (q 4) :: Value.int (q 5) :: Value.int (q 6) :: Value.int (q 7) :: Value.ref (a 8) :: Value.ref (a 9) :: Value.ref (a 10) :: Value.ref (a 11) :: Value.ref (a 12) :: Value.ref (a 13) :: Value.int (q 14) :: Value.long v :: Value.long w :: Value.ref (a 17) :: Value.ref (a 18) :: Value.ref (a 19) :: Value.ref (a 20) :: Value.ref (a 21) :: Value.ref (a 22) :: Value.ref (a 23) :: Value.int (q 24) :: Value.ref (a 25) :: Value.int (q 26) :: Value.ref (a 27) :: Value.int (q 28) :: Value.int (q 29) :: Value.int (q 30) :: Value.int (q 31) :: Value.int (q 32) :: Value.int (q 33) :: Value.ref (a 34) :: Value.ref (a 35) :: Value.ref (a 36) :: Value.ref (a 37) :: Value.ref (a 38) :: Value.ref (a 39) :: Value.ref (a 40) :: Value.int (q 41) :: Value.ref (a 42) :: Value.int (q 43) :: Value.int (q 44) :: []))), ((a 34), .inl (T 0, 4, .inl f34)), ((a 35), .inl (T 0, 4, .inl f35)), ((a 36), .inl (T 1, 120, .inr (.inl f36))), ((a 37), .inl (T 3, 120, .inr (.inr (.inr (.inl f37)))))] s.heap := hP
  have hl := lv_entry ([.ref h0, .int x1, .int x2, .long x3]) (n := 6) (Nat.le_of_ble_eq_true rfl)
  rw [lg_entry_eq]
  generalize (lg_sl ([.ref h0, .int x1, .int x2, .long x3]) ++ List.replicate (6 - (lg_sl ([.ref h0, .int x1, .int x2, .long x3])).length) Slot.unset).toArray = ls at hl ⊢
  have hl : lv_has ls 6 [(0, .ref h0), (1, .int x1), (2, .int x2), (3, .long x3)] := hl
  clear hD0
  have hts := dr_words hts0 s.drawn
  have hE : ekK D T (s.setDrawn s.drawn) := ekK.same (u := s) rfl hE0
  have hown : (s.setDrawn s.drawn).vm.findClass RX13 = some m.cls := hown0
  refine lv_aload_n hx hb dX13_cell_0 rfl (lv_at hl 0 rfl) ?_
  refine lv_iload_n hx hb dX13_cell_1 rfl (lv_at hl 1 rfl) ?_
  refine lv_iload_n hx hb dX13_cell_2 rfl (lv_at hl 2 rfl) ?_
  refine vp_callSi (W.runV (As := [.int x1, .int x2]) (rest := []) ⟨hx, hb, hml, hown, hts⟩ (c_X13_wrong l D T h0 [.int (q 0), .int (q 1), .int (q 2), .int (q 3), .int (q 4), .int (q 5), .int (q 6), .int (q 7), .ref (a 8), .ref (a 9), .ref (a 10), .ref (a 11), .ref (a 12), .ref (a 13), .int (q 14), .long v, .long w, .ref (a 17), .ref (a 18), .ref (a 19), .ref (a 20), .ref (a 21), .ref (a 22), .ref (a 23), .int (q 24), .ref (a 25), .int (q 26), .ref (a 27), .int (q 28), .int (q 29), .int (q 30), .int (q 31), .int (q 32), .int (q 33), .ref (a 34), .ref (a 35), .ref (a 36), .ref (a 37), .ref (a 38), .ref (a 39), .ref (a 40), .int (q 41), .ref (a 42), .int (q 43), .int (q 44)] (a 34) f34 (a 35) f35 x1 x2 rfl rfl hsz) (cwV 2 hts gX13_cell_X13_wrong rfl rfl rfl hv_X13_wrong ⟨Nat.le_of_ble_eq_true rfl, Nat.le_of_ble_eq_true rfl⟩) (pR_V (q := (RX13, TX13, 45)) (ci := 10) (q0 := 0) hP hE rfl rfl [0, 1, 2] rfl) rfl rfl hl.1 rfl (lv_room (Nat.le_of_ble_eq_true rfl)) dX13_cell_3 ⟨Nat.le_of_ble_eq_true rfl, Nat.le_of_ble_eq_true rfl⟩) (fun r_1 hr_1 => ?_)
  refine lv_istore (lv' := [(5, .int r_1), (0, .ref h0), (1, .int x1), (2, .int x2), (3, .long x3)]) hx hb dX13_cell_6 hl (by decide +kernel) rfl (fun ls hl => ?_)
  refine lv_iload hx hb dX13_cell_8 (lv_at hl 0 rfl) ?_
  refine lv_if_eq (tgt := 16) hx hb dX13_cell_10 (by decide +kernel) (fun c_2 => ?_) (fun c_2 => ?_)
  · rw [fa_eq] at c_2
    try rw [ti_0] at c_2
    have hwr := hr_1.1 (by omega)
    have h30 : (30 * x1).toInt = 30 * x1.toInt := by rw [fb_mulI (by rw [ti_30]; omega) (by rw [ti_30]; omega), ti_30]
    refine lv_aload_n hx hb dX13_cell_16 rfl (lv_at hl 1 rfl) ?_
    refine va_get (D := D) (ci := 10) (v := .ref (a 34)) (C := RX13) (T := TX13) (N := 45) hx hb hts in_X13_cell_X13 hown hE.1 hP 0 rfl rfl 34 (by decide +kernel) (hts (.fieldLink RX13 104 "ClauseBookModel" "sorts" "[I") (List.mem_of_getElem? (i := 1) rfl)) (fun _ h9 => h9) rfl dX13_cell_17 ?_
    refine lv_iload_n hx hb dX13_cell_20 rfl (lv_at hl 2 rfl) ?_
    refine va_iald hx hb hE.1 hP 1 0 rfl rfl (by rw [vp_in_iff]; first | omega | (rw [fb_addI (by omega) (by omega)]; omega)) dX13_cell_21 ?_
    refine lv_topi (fun z_3 ez_3 => ?_)
    have htz_3 : z_3.toInt = (f34 (x1.toNatClampNeg)).toInt := by rw [ez_3]
    refine lv_if_ne (tgt := 36) hx hb dX13_cell_22 (by decide +kernel) (fun c_4 => ?_) (fun c_4 => ?_)
    · rw [fa_eq] at c_4
      try rw [ti_0] at c_4
      refine lv_aload_n hx hb dX13_cell_36 rfl (lv_at hl 1 rfl) ?_
      refine va_get (D := D) (ci := 10) (v := .ref (a 36)) (C := RX13) (T := TX13) (N := 45) hx hb hts in_X13_cell_X13 hown hE.1 hP 0 rfl rfl 36 (by decide +kernel) (hts (.fieldLink RX13 110 "ClauseBookModel" "whole" "[J") (List.mem_of_getElem? (i := 2) rfl)) (fun _ h9 => h9) rfl dX13_cell_37 ?_
      refine lv_bipush (v := 30) hx hb dX13_cell_40 (by decide +kernel) ?_
      refine lv_iload_n hx hb dX13_cell_42 rfl (lv_at hl 2 rfl) ?_
      refine lv_imul hx hb dX13_cell_43 ?_
      refine lv_iload_n hx hb dX13_cell_44 rfl (lv_at hl 3 rfl) ?_
      refine lv_iadd hx hb dX13_cell_45 ?_
      refine lv_lload_n hx hb dX13_cell_46 rfl (lv_at hl 4 rfl) ?_
      refine va_last hx hb hE.1 hP hD hS 3 1 rfl rfl (by rw [vp_in_iff]; first | omega | (rw [fb_addI (by omega) (by omega)]; omega)) dX13_cell_47 (fun H locs hP hD hS => ?_)
      obtain ⟨hP, hD⟩ := wPD [(h0, .inr (10, (Value.int (q 0) :: Value.int (q 1) :: Value.int (q 2) :: Value.int (q 3) :: Value.int (q 4) :: Value.int (q 5) :: Value.int (q 6) :: Value.int (q 7) :: Value.ref (a 8) :: Value.ref (a 9) :: Value.ref (a 10) :: Value.ref (a 11) :: Value.ref (a 12) :: Value.ref (a 13) :: Value.int (q 14) :: Value.long v :: Value.long w :: Value.ref (a 17) :: Value.ref (a 18) :: Value.ref (a 19) :: Value.ref (a 20) :: Value.ref (a 21) :: Value.ref (a 22) :: Value.ref (a 23) :: Value.int (q 24) :: Value.ref (a 25) :: Value.int (q 26) :: Value.ref (a 27) :: Value.int (q 28) :: Value.int (q 29) :: Value.int (q 30) :: Value.int (q 31) :: Value.int (q 32) :: Value.int (q 33) :: Value.ref (a 34) :: Value.ref (a 35) :: Value.ref (a 36) :: Value.ref (a 37) :: Value.ref (a 38) :: Value.ref (a 39) :: Value.ref (a 40) :: Value.int (q 41) :: Value.ref (a 42) :: Value.int (q 43) :: Value.int (q 44) :: []))), ((a 34), .inl (T 0, 4, .inl f34)), ((a 35), .inl (T 0, 4, .inl f35)), ((a 36), .inl (T 1, 120, .inr (.inl (vp_updL f36 (((30 * x1) + x2).toNatClampNeg) x3)))), ((a 37), .inl (T 3, 120, .inr (.inr (.inr (.inl f37)))))] hP hD rfl
      refine lv_aload_n hx hb dX13_cell_48 rfl (lv_at hl 1 rfl) ?_
      refine va_get (D := D) (ci := 10) (v := .ref (a 37)) (C := RX13) (T := TX13) (N := 45) hx hb hts in_X13_cell_X13 hown hE.1 hP 0 rfl rfl 37 (by decide +kernel) (hts (.fieldLink RX13 113 "ClauseBookModel" "host" "[D") (List.mem_of_getElem? (i := 3) rfl)) (fun _ h9 => h9) rfl dX13_cell_49 ?_
      refine lv_bipush (v := 30) hx hb dX13_cell_52 (by decide +kernel) ?_
      refine lv_iload_n hx hb dX13_cell_54 rfl (lv_at hl 2 rfl) ?_
      refine lv_imul hx hb dX13_cell_55 ?_
      refine lv_iload_n hx hb dX13_cell_56 rfl (lv_at hl 3 rfl) ?_
      refine lv_iadd hx hb dX13_cell_57 ?_
      refine lv_aload_n hx hb dX13_cell_58 rfl (lv_at hl 1 rfl) ?_
      refine va_get (D := D) (ci := 10) (v := .ref (a 34)) (C := RX13) (T := TX13) (N := 45) hx hb hts in_X13_cell_X13 hown hE.1 hP 0 rfl rfl 34 (by decide +kernel) (hts (.fieldLink RX13 104 "ClauseBookModel" "sorts" "[I") (List.mem_of_getElem? (i := 1) rfl)) (fun _ h9 => h9) rfl dX13_cell_59 ?_
      refine lv_iload_n hx hb dX13_cell_62 rfl (lv_at hl 2 rfl) ?_
      refine va_iald hx hb hE.1 hP 1 0 rfl rfl (by rw [vp_in_iff]; first | omega | (rw [fb_addI (by omega) (by omega)]; omega)) dX13_cell_63 ?_
      refine lv_topi (fun z_5 ez_5 => ?_)
      have htz_5 : z_5.toInt = (f34 (x1.toNatClampNeg)).toInt := by rw [ez_5]
      refine lv_iconst (v := 2) hx hb dX13_cell_64 (by decide +kernel) ?_
      refine lv_icmp_ne (tgt := 74) hx hb dX13_cell_65 (by decide +kernel) (fun c_6 => ?_) (fun c_6 => ?_)
      · rw [fa_eq] at c_6
        try rw [ti_2] at c_6
        refine lv_lload_n hx hb dX13_cell_74 rfl (lv_at hl 4 rfl) ?_
        refine lv_l2d hx hb dX13_cell_75 ?_
        refine va_dast hx hb hE.1 hP hD hS 4 3 rfl rfl (by rw [vp_in_iff]; first | omega | (rw [fb_addI (by omega) (by omega)]; omega)) dX13_cell_76 (fun H locs hP hD hS => ?_)
        obtain ⟨hP, hD⟩ := wPD [(h0, .inr (10, (Value.int (q 0) :: Value.int (q 1) :: Value.int (q 2) :: Value.int (q 3) :: Value.int (q 4) :: Value.int (q 5) :: Value.int (q 6) :: Value.int (q 7) :: Value.ref (a 8) :: Value.ref (a 9) :: Value.ref (a 10) :: Value.ref (a 11) :: Value.ref (a 12) :: Value.ref (a 13) :: Value.int (q 14) :: Value.long v :: Value.long w :: Value.ref (a 17) :: Value.ref (a 18) :: Value.ref (a 19) :: Value.ref (a 20) :: Value.ref (a 21) :: Value.ref (a 22) :: Value.ref (a 23) :: Value.int (q 24) :: Value.ref (a 25) :: Value.int (q 26) :: Value.ref (a 27) :: Value.int (q 28) :: Value.int (q 29) :: Value.int (q 30) :: Value.int (q 31) :: Value.int (q 32) :: Value.int (q 33) :: Value.ref (a 34) :: Value.ref (a 35) :: Value.ref (a 36) :: Value.ref (a 37) :: Value.ref (a 38) :: Value.ref (a 39) :: Value.ref (a 40) :: Value.int (q 41) :: Value.ref (a 42) :: Value.int (q 43) :: Value.int (q 44) :: []))), ((a 34), .inl (T 0, 4, .inl f34)), ((a 35), .inl (T 0, 4, .inl f35)), ((a 36), .inl (T 1, 120, .inr (.inl (vp_updL f36 (((30 * x1) + x2).toNatClampNeg) x3)))), ((a 37), .inl (T 3, 120, .inr (.inr (.inr (.inl (vf_upd f37 (((30 * x1) + x2).toNatClampNeg) (FP.l2d x3)))))))] hP hD rfl
        refine lv_iconst (v := 1) hx hb dX13_cell_77 (by decide +kernel) ?_
        refine W.endD hd0 ?_
        exact W.iret hx hb hr (fun t ht hW => ⟨⟨_, ((vp_updL f36 (((30 * x1) + x2).toNatClampNeg) x3), (vf_upd f37 (((30 * x1) + x2).toNatClampNeg) (FP.l2d x3))), rfl, (show (¬ (0 ≤ x1.toInt ∧ x1.toInt ≤ 3) → (1 : Int32).toInt = -2) ∧ ((0 ≤ x1.toInt ∧ x1.toInt ≤ 3) → ((f34 (x1.toNatClampNeg)).toInt < 0 → (1 : Int32).toInt = -11) ∧ (¬ (f34 (x1.toNatClampNeg)).toInt < 0 → ((0 ≤ x2.toInt ∧ x2.toInt < (f35 (x1.toNatClampNeg)).toInt) → ((f34 (x1.toNatClampNeg)).toInt = 0 ∧ ¬ x3.toInt = x3.toInt32.toInt → (1 : Int32).toInt = -5) ∧ (¬ ((f34 (x1.toNatClampNeg)).toInt = 0 ∧ ¬ x3.toInt = x3.toInt32.toInt) → (1 : Int32).toInt = 1)) ∧ (¬ (0 ≤ x2.toInt ∧ x2.toInt < (f35 (x1.toNatClampNeg)).toInt) → (1 : Int32).toInt = -12))) from (by have h9r : (1 : Int32).toInt = 1 := (by decide +kernel); omega)), by rw [ht]; exact hP.sub [0, 1, 2, 3, 4] rfl, hD.sub [0, 1, 2, 3, 4] (by decide +kernel) rfl⟩, hS.F ht⟩) hS.2.2 dX13_cell_78
      · rw [fa_eq] at c_6
        try rw [ti_2] at c_6
        refine lv_lload_n hx hb dX13_cell_68 rfl (lv_at hl 4 rfl) ?_
        refine lv_l2f hx hb dX13_cell_69 ?_
        refine lv_f2d_any hd0 lw_bits hx hb dX13_cell_70 (fun r_7 d_8 _ hd_8 => ?_)
        have hts := dr_words hts0 d_8
        have hE : ekK D T (s.setDrawn d_8) := ekK.same (u := s) rfl hE0
        have hown : (s.setDrawn d_8).vm.findClass RX13 = some m.cls := hown0
        refine lv_goto (tgt := 76) hx hb dX13_cell_71 (by decide +kernel) ?_
        refine va_dast hx hb hE.1 hP hD hS 4 3 rfl rfl (by rw [vp_in_iff]; first | omega | (rw [fb_addI (by omega) (by omega)]; omega)) dX13_cell_76 (fun H locs hP hD hS => ?_)
        obtain ⟨hP, hD⟩ := wPD [(h0, .inr (10, (Value.int (q 0) :: Value.int (q 1) :: Value.int (q 2) :: Value.int (q 3) :: Value.int (q 4) :: Value.int (q 5) :: Value.int (q 6) :: Value.int (q 7) :: Value.ref (a 8) :: Value.ref (a 9) :: Value.ref (a 10) :: Value.ref (a 11) :: Value.ref (a 12) :: Value.ref (a 13) :: Value.int (q 14) :: Value.long v :: Value.long w :: Value.ref (a 17) :: Value.ref (a 18) :: Value.ref (a 19) :: Value.ref (a 20) :: Value.ref (a 21) :: Value.ref (a 22) :: Value.ref (a 23) :: Value.int (q 24) :: Value.ref (a 25) :: Value.int (q 26) :: Value.ref (a 27) :: Value.int (q 28) :: Value.int (q 29) :: Value.int (q 30) :: Value.int (q 31) :: Value.int (q 32) :: Value.int (q 33) :: Value.ref (a 34) :: Value.ref (a 35) :: Value.ref (a 36) :: Value.ref (a 37) :: Value.ref (a 38) :: Value.ref (a 39) :: Value.ref (a 40) :: Value.int (q 41) :: Value.ref (a 42) :: Value.int (q 43) :: Value.int (q 44) :: []))), ((a 34), .inl (T 0, 4, .inl f34)), ((a 35), .inl (T 0, 4, .inl f35)), ((a 36), .inl (T 1, 120, .inr (.inl (vp_updL f36 (((30 * x1) + x2).toNatClampNeg) x3)))), ((a 37), .inl (T 3, 120, .inr (.inr (.inr (.inl (vf_upd f37 (((30 * x1) + x2).toNatClampNeg) r_7))))))] hP hD rfl
        refine lv_iconst (v := 1) hx hb dX13_cell_77 (by decide +kernel) ?_
        refine W.endD hd_8 ?_
        exact W.iret hx hb hr (fun t ht hW => ⟨⟨_, ((vp_updL f36 (((30 * x1) + x2).toNatClampNeg) x3), (vf_upd f37 (((30 * x1) + x2).toNatClampNeg) r_7)), rfl, (show (¬ (0 ≤ x1.toInt ∧ x1.toInt ≤ 3) → (1 : Int32).toInt = -2) ∧ ((0 ≤ x1.toInt ∧ x1.toInt ≤ 3) → ((f34 (x1.toNatClampNeg)).toInt < 0 → (1 : Int32).toInt = -11) ∧ (¬ (f34 (x1.toNatClampNeg)).toInt < 0 → ((0 ≤ x2.toInt ∧ x2.toInt < (f35 (x1.toNatClampNeg)).toInt) → ((f34 (x1.toNatClampNeg)).toInt = 0 ∧ ¬ x3.toInt = x3.toInt32.toInt → (1 : Int32).toInt = -5) ∧ (¬ ((f34 (x1.toNatClampNeg)).toInt = 0 ∧ ¬ x3.toInt = x3.toInt32.toInt) → (1 : Int32).toInt = 1)) ∧ (¬ (0 ≤ x2.toInt ∧ x2.toInt < (f35 (x1.toNatClampNeg)).toInt) → (1 : Int32).toInt = -12))) from (by have h9r : (1 : Int32).toInt = 1 := (by decide +kernel); omega)), by rw [ht]; exact hP.sub [0, 1, 2, 3, 4] rfl, hD.sub [0, 1, 2, 3, 4] (by decide +kernel) rfl⟩, hS.F ht⟩) hS.2.2 dX13_cell_78
    · rw [fa_eq] at c_4
      try rw [ti_0] at c_4
      refine lv_lload_n hx hb dX13_cell_25 rfl (lv_at hl 4 rfl) ?_
      refine lv_lload_n hx hb dX13_cell_26 rfl (lv_at hl 4 rfl) ?_
      refine lv_l2i hx hb dX13_cell_27 rfl ?_
      refine lv_i2l hx hb dX13_cell_28 rfl ?_
      refine W.lcmp hx hb dX13_cell_29 ?_
      refine lv_if_eq (tgt := 36) hx hb dX13_cell_30 (by decide +kernel) (fun c_9 => ?_) (fun c_9 => ?_)
      · rw [lcmp_eq] at c_9
        try rw [((Int32.toInt_toInt64 _).trans rfl)] at c_9
        refine lv_aload_n hx hb dX13_cell_36 rfl (lv_at hl 1 rfl) ?_
        refine va_get (D := D) (ci := 10) (v := .ref (a 36)) (C := RX13) (T := TX13) (N := 45) hx hb hts in_X13_cell_X13 hown hE.1 hP 0 rfl rfl 36 (by decide +kernel) (hts (.fieldLink RX13 110 "ClauseBookModel" "whole" "[J") (List.mem_of_getElem? (i := 2) rfl)) (fun _ h9 => h9) rfl dX13_cell_37 ?_
        refine lv_bipush (v := 30) hx hb dX13_cell_40 (by decide +kernel) ?_
        refine lv_iload_n hx hb dX13_cell_42 rfl (lv_at hl 2 rfl) ?_
        refine lv_imul hx hb dX13_cell_43 ?_
        refine lv_iload_n hx hb dX13_cell_44 rfl (lv_at hl 3 rfl) ?_
        refine lv_iadd hx hb dX13_cell_45 ?_
        refine lv_lload_n hx hb dX13_cell_46 rfl (lv_at hl 4 rfl) ?_
        refine va_last hx hb hE.1 hP hD hS 3 1 rfl rfl (by rw [vp_in_iff]; first | omega | (rw [fb_addI (by omega) (by omega)]; omega)) dX13_cell_47 (fun H locs hP hD hS => ?_)
        obtain ⟨hP, hD⟩ := wPD [(h0, .inr (10, (Value.int (q 0) :: Value.int (q 1) :: Value.int (q 2) :: Value.int (q 3) :: Value.int (q 4) :: Value.int (q 5) :: Value.int (q 6) :: Value.int (q 7) :: Value.ref (a 8) :: Value.ref (a 9) :: Value.ref (a 10) :: Value.ref (a 11) :: Value.ref (a 12) :: Value.ref (a 13) :: Value.int (q 14) :: Value.long v :: Value.long w :: Value.ref (a 17) :: Value.ref (a 18) :: Value.ref (a 19) :: Value.ref (a 20) :: Value.ref (a 21) :: Value.ref (a 22) :: Value.ref (a 23) :: Value.int (q 24) :: Value.ref (a 25) :: Value.int (q 26) :: Value.ref (a 27) :: Value.int (q 28) :: Value.int (q 29) :: Value.int (q 30) :: Value.int (q 31) :: Value.int (q 32) :: Value.int (q 33) :: Value.ref (a 34) :: Value.ref (a 35) :: Value.ref (a 36) :: Value.ref (a 37) :: Value.ref (a 38) :: Value.ref (a 39) :: Value.ref (a 40) :: Value.int (q 41) :: Value.ref (a 42) :: Value.int (q 43) :: Value.int (q 44) :: []))), ((a 34), .inl (T 0, 4, .inl f34)), ((a 35), .inl (T 0, 4, .inl f35)), ((a 36), .inl (T 1, 120, .inr (.inl (vp_updL f36 (((30 * x1) + x2).toNatClampNeg) x3)))), ((a 37), .inl (T 3, 120, .inr (.inr (.inr (.inl f37)))))] hP hD rfl
        refine lv_aload_n hx hb dX13_cell_48 rfl (lv_at hl 1 rfl) ?_
        refine va_get (D := D) (ci := 10) (v := .ref (a 37)) (C := RX13) (T := TX13) (N := 45) hx hb hts in_X13_cell_X13 hown hE.1 hP 0 rfl rfl 37 (by decide +kernel) (hts (.fieldLink RX13 113 "ClauseBookModel" "host" "[D") (List.mem_of_getElem? (i := 3) rfl)) (fun _ h9 => h9) rfl dX13_cell_49 ?_
        refine lv_bipush (v := 30) hx hb dX13_cell_52 (by decide +kernel) ?_
        refine lv_iload_n hx hb dX13_cell_54 rfl (lv_at hl 2 rfl) ?_
        refine lv_imul hx hb dX13_cell_55 ?_
        refine lv_iload_n hx hb dX13_cell_56 rfl (lv_at hl 3 rfl) ?_
        refine lv_iadd hx hb dX13_cell_57 ?_
        refine lv_aload_n hx hb dX13_cell_58 rfl (lv_at hl 1 rfl) ?_
        refine va_get (D := D) (ci := 10) (v := .ref (a 34)) (C := RX13) (T := TX13) (N := 45) hx hb hts in_X13_cell_X13 hown hE.1 hP 0 rfl rfl 34 (by decide +kernel) (hts (.fieldLink RX13 104 "ClauseBookModel" "sorts" "[I") (List.mem_of_getElem? (i := 1) rfl)) (fun _ h9 => h9) rfl dX13_cell_59 ?_
        refine lv_iload_n hx hb dX13_cell_62 rfl (lv_at hl 2 rfl) ?_
        refine va_iald hx hb hE.1 hP 1 0 rfl rfl (by rw [vp_in_iff]; first | omega | (rw [fb_addI (by omega) (by omega)]; omega)) dX13_cell_63 ?_
        refine lv_topi (fun z_10 ez_10 => ?_)
        have htz_10 : z_10.toInt = (f34 (x1.toNatClampNeg)).toInt := by rw [ez_10]
        refine lv_iconst (v := 2) hx hb dX13_cell_64 (by decide +kernel) ?_
        refine lv_icmp_ne (tgt := 74) hx hb dX13_cell_65 (by decide +kernel) (fun c_11 => ?_) (fun c_11 => ?_)
        · rw [fa_eq] at c_11
          try rw [ti_2] at c_11
          refine lv_lload_n hx hb dX13_cell_74 rfl (lv_at hl 4 rfl) ?_
          refine lv_l2d hx hb dX13_cell_75 ?_
          refine va_dast hx hb hE.1 hP hD hS 4 3 rfl rfl (by rw [vp_in_iff]; first | omega | (rw [fb_addI (by omega) (by omega)]; omega)) dX13_cell_76 (fun H locs hP hD hS => ?_)
          obtain ⟨hP, hD⟩ := wPD [(h0, .inr (10, (Value.int (q 0) :: Value.int (q 1) :: Value.int (q 2) :: Value.int (q 3) :: Value.int (q 4) :: Value.int (q 5) :: Value.int (q 6) :: Value.int (q 7) :: Value.ref (a 8) :: Value.ref (a 9) :: Value.ref (a 10) :: Value.ref (a 11) :: Value.ref (a 12) :: Value.ref (a 13) :: Value.int (q 14) :: Value.long v :: Value.long w :: Value.ref (a 17) :: Value.ref (a 18) :: Value.ref (a 19) :: Value.ref (a 20) :: Value.ref (a 21) :: Value.ref (a 22) :: Value.ref (a 23) :: Value.int (q 24) :: Value.ref (a 25) :: Value.int (q 26) :: Value.ref (a 27) :: Value.int (q 28) :: Value.int (q 29) :: Value.int (q 30) :: Value.int (q 31) :: Value.int (q 32) :: Value.int (q 33) :: Value.ref (a 34) :: Value.ref (a 35) :: Value.ref (a 36) :: Value.ref (a 37) :: Value.ref (a 38) :: Value.ref (a 39) :: Value.ref (a 40) :: Value.int (q 41) :: Value.ref (a 42) :: Value.int (q 43) :: Value.int (q 44) :: []))), ((a 34), .inl (T 0, 4, .inl f34)), ((a 35), .inl (T 0, 4, .inl f35)), ((a 36), .inl (T 1, 120, .inr (.inl (vp_updL f36 (((30 * x1) + x2).toNatClampNeg) x3)))), ((a 37), .inl (T 3, 120, .inr (.inr (.inr (.inl (vf_upd f37 (((30 * x1) + x2).toNatClampNeg) (FP.l2d x3)))))))] hP hD rfl
          refine lv_iconst (v := 1) hx hb dX13_cell_77 (by decide +kernel) ?_
          refine W.endD hd0 ?_
          exact W.iret hx hb hr (fun t ht hW => ⟨⟨_, ((vp_updL f36 (((30 * x1) + x2).toNatClampNeg) x3), (vf_upd f37 (((30 * x1) + x2).toNatClampNeg) (FP.l2d x3))), rfl, (show (¬ (0 ≤ x1.toInt ∧ x1.toInt ≤ 3) → (1 : Int32).toInt = -2) ∧ ((0 ≤ x1.toInt ∧ x1.toInt ≤ 3) → ((f34 (x1.toNatClampNeg)).toInt < 0 → (1 : Int32).toInt = -11) ∧ (¬ (f34 (x1.toNatClampNeg)).toInt < 0 → ((0 ≤ x2.toInt ∧ x2.toInt < (f35 (x1.toNatClampNeg)).toInt) → ((f34 (x1.toNatClampNeg)).toInt = 0 ∧ ¬ x3.toInt = x3.toInt32.toInt → (1 : Int32).toInt = -5) ∧ (¬ ((f34 (x1.toNatClampNeg)).toInt = 0 ∧ ¬ x3.toInt = x3.toInt32.toInt) → (1 : Int32).toInt = 1)) ∧ (¬ (0 ≤ x2.toInt ∧ x2.toInt < (f35 (x1.toNatClampNeg)).toInt) → (1 : Int32).toInt = -12))) from (by have h9r : (1 : Int32).toInt = 1 := (by decide +kernel); omega)), by rw [ht]; exact hP.sub [0, 1, 2, 3, 4] rfl, hD.sub [0, 1, 2, 3, 4] (by decide +kernel) rfl⟩, hS.F ht⟩) hS.2.2 dX13_cell_78
        · rw [fa_eq] at c_11
          try rw [ti_2] at c_11
          refine lv_lload_n hx hb dX13_cell_68 rfl (lv_at hl 4 rfl) ?_
          refine lv_l2f hx hb dX13_cell_69 ?_
          refine lv_f2d_any hd0 lw_bits hx hb dX13_cell_70 (fun r_12 d_13 _ hd_13 => ?_)
          have hts := dr_words hts0 d_13
          have hE : ekK D T (s.setDrawn d_13) := ekK.same (u := s) rfl hE0
          have hown : (s.setDrawn d_13).vm.findClass RX13 = some m.cls := hown0
          refine lv_goto (tgt := 76) hx hb dX13_cell_71 (by decide +kernel) ?_
          refine va_dast hx hb hE.1 hP hD hS 4 3 rfl rfl (by rw [vp_in_iff]; first | omega | (rw [fb_addI (by omega) (by omega)]; omega)) dX13_cell_76 (fun H locs hP hD hS => ?_)
          obtain ⟨hP, hD⟩ := wPD [(h0, .inr (10, (Value.int (q 0) :: Value.int (q 1) :: Value.int (q 2) :: Value.int (q 3) :: Value.int (q 4) :: Value.int (q 5) :: Value.int (q 6) :: Value.int (q 7) :: Value.ref (a 8) :: Value.ref (a 9) :: Value.ref (a 10) :: Value.ref (a 11) :: Value.ref (a 12) :: Value.ref (a 13) :: Value.int (q 14) :: Value.long v :: Value.long w :: Value.ref (a 17) :: Value.ref (a 18) :: Value.ref (a 19) :: Value.ref (a 20) :: Value.ref (a 21) :: Value.ref (a 22) :: Value.ref (a 23) :: Value.int (q 24) :: Value.ref (a 25) :: Value.int (q 26) :: Value.ref (a 27) :: Value.int (q 28) :: Value.int (q 29) :: Value.int (q 30) :: Value.int (q 31) :: Value.int (q 32) :: Value.int (q 33) :: Value.ref (a 34) :: Value.ref (a 35) :: Value.ref (a 36) :: Value.ref (a 37) :: Value.ref (a 38) :: Value.ref (a 39) :: Value.ref (a 40) :: Value.int (q 41) :: Value.ref (a 42) :: Value.int (q 43) :: Value.int (q 44) :: []))), ((a 34), .inl (T 0, 4, .inl f34)), ((a 35), .inl (T 0, 4, .inl f35)), ((a 36), .inl (T 1, 120, .inr (.inl (vp_updL f36 (((30 * x1) + x2).toNatClampNeg) x3)))), ((a 37), .inl (T 3, 120, .inr (.inr (.inr (.inl (vf_upd f37 (((30 * x1) + x2).toNatClampNeg) r_12))))))] hP hD rfl
          refine lv_iconst (v := 1) hx hb dX13_cell_77 (by decide +kernel) ?_
          refine W.endD hd_13 ?_
          exact W.iret hx hb hr (fun t ht hW => ⟨⟨_, ((vp_updL f36 (((30 * x1) + x2).toNatClampNeg) x3), (vf_upd f37 (((30 * x1) + x2).toNatClampNeg) r_12)), rfl, (show (¬ (0 ≤ x1.toInt ∧ x1.toInt ≤ 3) → (1 : Int32).toInt = -2) ∧ ((0 ≤ x1.toInt ∧ x1.toInt ≤ 3) → ((f34 (x1.toNatClampNeg)).toInt < 0 → (1 : Int32).toInt = -11) ∧ (¬ (f34 (x1.toNatClampNeg)).toInt < 0 → ((0 ≤ x2.toInt ∧ x2.toInt < (f35 (x1.toNatClampNeg)).toInt) → ((f34 (x1.toNatClampNeg)).toInt = 0 ∧ ¬ x3.toInt = x3.toInt32.toInt → (1 : Int32).toInt = -5) ∧ (¬ ((f34 (x1.toNatClampNeg)).toInt = 0 ∧ ¬ x3.toInt = x3.toInt32.toInt) → (1 : Int32).toInt = 1)) ∧ (¬ (0 ≤ x2.toInt ∧ x2.toInt < (f35 (x1.toNatClampNeg)).toInt) → (1 : Int32).toInt = -12))) from (by have h9r : (1 : Int32).toInt = 1 := (by decide +kernel); omega)), by rw [ht]; exact hP.sub [0, 1, 2, 3, 4] rfl, hD.sub [0, 1, 2, 3, 4] (by decide +kernel) rfl⟩, hS.F ht⟩) hS.2.2 dX13_cell_78
      · rw [lcmp_eq] at c_9
        try rw [((Int32.toInt_toInt64 _).trans rfl)] at c_9
        refine lv_bipush (v := (-5)) hx hb dX13_cell_33 (by decide +kernel) ?_
        refine W.endD hd0 ?_
        exact W.iret hx hb hr (fun t ht hW => ⟨⟨_, (f36, f37), rfl, (show (¬ (0 ≤ x1.toInt ∧ x1.toInt ≤ 3) → ((-5) : Int32).toInt = -2) ∧ ((0 ≤ x1.toInt ∧ x1.toInt ≤ 3) → ((f34 (x1.toNatClampNeg)).toInt < 0 → ((-5) : Int32).toInt = -11) ∧ (¬ (f34 (x1.toNatClampNeg)).toInt < 0 → ((0 ≤ x2.toInt ∧ x2.toInt < (f35 (x1.toNatClampNeg)).toInt) → ((f34 (x1.toNatClampNeg)).toInt = 0 ∧ ¬ x3.toInt = x3.toInt32.toInt → ((-5) : Int32).toInt = -5) ∧ (¬ ((f34 (x1.toNatClampNeg)).toInt = 0 ∧ ¬ x3.toInt = x3.toInt32.toInt) → ((-5) : Int32).toInt = 1)) ∧ (¬ (0 ≤ x2.toInt ∧ x2.toInt < (f35 (x1.toNatClampNeg)).toInt) → ((-5) : Int32).toInt = -12))) from (by have h9r : ((-5) : Int32).toInt = -5 := (by decide +kernel); omega)), by rw [ht]; exact hP.sub [0, 1, 2, 3, 4] rfl, hD.sub [0, 1, 2, 3, 4] (by decide +kernel) rfl⟩, hS.F ht⟩) hS.2.2 dX13_cell_35
  · rw [fa_eq] at c_2
    try rw [ti_0] at c_2
    refine lv_iload hx hb dX13_cell_13 (lv_at hl 0 rfl) ?_
    refine W.endD hd0 ?_
    exact W.iret hx hb hr (fun t ht hW => ⟨⟨_, (f36, f37), rfl, (show (¬ (0 ≤ x1.toInt ∧ x1.toInt ≤ 3) → r_1.toInt = -2) ∧ ((0 ≤ x1.toInt ∧ x1.toInt ≤ 3) → ((f34 (x1.toNatClampNeg)).toInt < 0 → r_1.toInt = -11) ∧ (¬ (f34 (x1.toNatClampNeg)).toInt < 0 → ((0 ≤ x2.toInt ∧ x2.toInt < (f35 (x1.toNatClampNeg)).toInt) → ((f34 (x1.toNatClampNeg)).toInt = 0 ∧ ¬ x3.toInt = x3.toInt32.toInt → r_1.toInt = -5) ∧ (¬ ((f34 (x1.toNatClampNeg)).toInt = 0 ∧ ¬ x3.toInt = x3.toInt32.toInt) → r_1.toInt = 1)) ∧ (¬ (0 ≤ x2.toInt ∧ x2.toInt < (f35 (x1.toNatClampNeg)).toInt) → r_1.toInt = -12))) from (by omega)), by rw [ht]; exact hP.sub [0, 1, 2, 3, 4] rfl, hD.sub [0, 1, 2, 3, 4] (by decide +kernel) rfl⟩, hS.F ht⟩) hS.2.2 dX13_cell_15
theorem dX13_halve_0 : decode cX13_halve 0 = .ok (.aload_n 0, 1) := by decide +kernel
theorem dX13_halve_1 : decode cX13_halve 1 = .ok (.iload_n 1, 1) := by decide +kernel
theorem dX13_halve_11 : decode cX13_halve 11 = .ok (.iload_n 3, 1) := by decide +kernel
theorem dX13_halve_12 : decode cX13_halve 12 = .ok (.ireturn, 1) := by decide +kernel
theorem dX13_halve_13 : decode cX13_halve 13 = .ok (.bipush 30, 2) := by decide +kernel
theorem dX13_halve_15 : decode cX13_halve 15 = .ok (.iload_n 1, 1) := by decide +kernel
theorem dX13_halve_16 : decode cX13_halve 16 = .ok (.imul, 1) := by decide +kernel
theorem dX13_halve_17 : decode cX13_halve 17 = .ok (.iload_n 2, 1) := by decide +kernel
theorem dX13_halve_18 : decode cX13_halve 18 = .ok (.iadd, 1) := by decide +kernel
theorem dX13_halve_19 : decode cX13_halve 19 = .ok (.istore 4, 2) := by decide +kernel
theorem dX13_halve_2 : decode cX13_halve 2 = .ok (.iload_n 2, 1) := by decide +kernel
theorem dX13_halve_21 : decode cX13_halve 21 = .ok (.aload_n 0, 1) := by decide +kernel
theorem dX13_halve_22 : decode cX13_halve 22 = .ok (.getfield 110, 3) := by decide +kernel
theorem dX13_halve_25 : decode cX13_halve 25 = .ok (.iload 4, 2) := by decide +kernel
theorem dX13_halve_27 : decode cX13_halve 27 = .ok (.aload_n 0, 1) := by decide +kernel
theorem dX13_halve_28 : decode cX13_halve 28 = .ok (.getfield 110, 3) := by decide +kernel
theorem dX13_halve_3 : decode cX13_halve 3 = .ok (.invokevirtual 410, 3) := by decide +kernel
theorem dX13_halve_31 : decode cX13_halve 31 = .ok (.iload 4, 2) := by decide +kernel
theorem dX13_halve_33 : decode cX13_halve 33 = .ok (.laload, 1) := by decide +kernel
theorem dX13_halve_34 : decode cX13_halve 34 = .ok (.ldc2_w 184, 3) := by decide +kernel
theorem dX13_halve_37 : decode cX13_halve 37 = .ok (.ldiv, 1) := by decide +kernel
theorem dX13_halve_38 : decode cX13_halve 38 = .ok (.lastore, 1) := by decide +kernel
theorem dX13_halve_39 : decode cX13_halve 39 = .ok (.aload_n 0, 1) := by decide +kernel
theorem dX13_halve_40 : decode cX13_halve 40 = .ok (.getfield 113, 3) := by decide +kernel
theorem dX13_halve_43 : decode cX13_halve 43 = .ok (.iload 4, 2) := by decide +kernel
theorem dX13_halve_45 : decode cX13_halve 45 = .ok (.aload_n 0, 1) := by decide +kernel
theorem dX13_halve_46 : decode cX13_halve 46 = .ok (.getfield 104, 3) := by decide +kernel
theorem dX13_halve_49 : decode cX13_halve 49 = .ok (.iload_n 1, 1) := by decide +kernel
theorem dX13_halve_50 : decode cX13_halve 50 = .ok (.iaload, 1) := by decide +kernel
theorem dX13_halve_51 : decode cX13_halve 51 = .ok (.iconst 2, 1) := by decide +kernel
theorem dX13_halve_52 : decode cX13_halve 52 = .ok (.if_icmp .ne 17, 3) := by decide +kernel
theorem dX13_halve_55 : decode cX13_halve 55 = .ok (.aload_n 0, 1) := by decide +kernel
theorem dX13_halve_56 : decode cX13_halve 56 = .ok (.getfield 113, 3) := by decide +kernel
theorem dX13_halve_59 : decode cX13_halve 59 = .ok (.iload 4, 2) := by decide +kernel
theorem dX13_halve_6 : decode cX13_halve 6 = .ok (.istore_n 3, 1) := by decide +kernel
theorem dX13_halve_61 : decode cX13_halve 61 = .ok (.daload, 1) := by decide +kernel
theorem dX13_halve_62 : decode cX13_halve 62 = .ok (.d2f, 1) := by decide +kernel
theorem dX13_halve_63 : decode cX13_halve 63 = .ok (.fconst 2, 1) := by decide +kernel
theorem dX13_halve_64 : decode cX13_halve 64 = .ok (.fdiv, 1) := by decide +kernel
theorem dX13_halve_65 : decode cX13_halve 65 = .ok (.f2d, 1) := by decide +kernel
theorem dX13_halve_66 : decode cX13_halve 66 = .ok (.goto 14, 3) := by decide +kernel
theorem dX13_halve_69 : decode cX13_halve 69 = .ok (.aload_n 0, 1) := by decide +kernel
theorem dX13_halve_7 : decode cX13_halve 7 = .ok (.iload_n 3, 1) := by decide +kernel
theorem dX13_halve_70 : decode cX13_halve 70 = .ok (.getfield 113, 3) := by decide +kernel
theorem dX13_halve_73 : decode cX13_halve 73 = .ok (.iload 4, 2) := by decide +kernel
theorem dX13_halve_75 : decode cX13_halve 75 = .ok (.daload, 1) := by decide +kernel
theorem dX13_halve_76 : decode cX13_halve 76 = .ok (.ldc2_w 415, 3) := by decide +kernel
theorem dX13_halve_79 : decode cX13_halve 79 = .ok (.ddiv, 1) := by decide +kernel
theorem dX13_halve_8 : decode cX13_halve 8 = .ok (.ifCond .eq 5, 3) := by decide +kernel
theorem dX13_halve_80 : decode cX13_halve 80 = .ok (.dastore, 1) := by decide +kernel
theorem dX13_halve_81 : decode cX13_halve 81 = .ok (.iconst 1, 1) := by decide +kernel
theorem dX13_halve_82 : decode cX13_halve 82 = .ok (.ireturn, 1) := by decide +kernel
set_option maxRecDepth 20000 in
theorem ggX13_halve_X13_wrong : GoodIn wsX13_halve wsX13_wrong := goodIn_r _ [10, 4, 11, 12, 13, 9, 14, 15, 16, 17, 18, 19, 20, 21, 22, 23, 24, 25, 26, 27, 28, 29, 30, 31, 32, 33, 34, 35, 36, 37, 38, 39, 40, 41, 42, 43, 44, 45, 46, 47, 48, 49, 50, 51, 52, 53, 54, 55, 56, 57, 58, 59, 60, 61, 62, 63] rfl (by decide +kernel)
set_option maxRecDepth 20000 in
theorem gX13_halve_X13_wrong : GoodIn wsX13_halve (wsV RX13 410 RX13 yX13_wrong wsX13_wrong) := goodIn_app (goodIn_r _ [6, 7, 8, 9] rfl (by decide +kernel)) ggX13_halve_X13_wrong
set_option maxRecDepth 20000 in
theorem in_X13_halve_X13 : ∀ w ∈ wsX130, w ∈ wsX13_halve := sub_r [19, 20, 21, 22, 23, 24, 25, 26, 27, 28, 29, 30, 31, 32, 33, 34, 35, 36, 37, 38, 39, 40, 41, 42, 43, 44, 45, 46, 47, 48, 49, 50, 51, 52, 53, 54, 55, 56, 57, 58, 59, 60, 61, 62, 63] rfl
set_option maxHeartbeats 4000000 in
set_option maxRecDepth 100000 in
theorem c_X13_halve (l : Launch) (D : va_G) (T : Nat → ClassId) (sz : Nat) (h0 : Nat) (q : Nat → Int32) (v : Int64) (w : Int64) (a : Nat → Nat) (f34 : Nat → Int32) (f35 : Nat → Int32) (f36 : Nat → Int64) (f37 : Nat → UInt64) (x1 : Int32) (x2 : Int32) (hsz : ∀ k : Nat, k < 4 → 0 ≤ (f35 k).toInt ∧ (f35 k).toInt ≤ 30) : MetD lw_cs l yX13_halve wsX13_halve ({ frames := 3, cells := 0, slots := 0, locals := 67 }) (pW [.ref h0, .int x1, .int x2] D T [(h0, .inr (10, (Value.int (q 0) :: Value.int (q 1) :: Value.int (q 2) :: Value.int (q 3) :: Value.int (q 4) :: Value.int (q 5) :: Value.int (q 6) :: Value.int (q 7) :: Value.ref (a 8) :: Value.ref (a 9) :: Value.ref (a 10) :: Value.ref (a 11) :: Value.ref (a 12) :: Value.ref (a 13) :: Value.int (q 14) :: Value.long v :: Value.long w :: Value.ref (a 17) :: Value.ref (a 18) :: Value.ref (a 19) :: Value.ref (a 20) :: Value.ref (a 21) :: Value.ref (a 22) :: Value.ref (a 23) :: Value.int (q 24) :: Value.ref (a 25) :: Value.int (q 26) :: Value.ref (a 27) :: Value.int (q 28) :: Value.int (q 29) :: Value.int (q 30) :: Value.int (q 31) :: Value.int (q 32) :: Value.int (q 33) :: Value.ref (a 34) :: Value.ref (a 35) :: Value.ref (a 36) :: Value.ref (a 37) :: Value.ref (a 38) :: Value.ref (a 39) :: Value.ref (a 40) :: Value.int (q 41) :: Value.ref (a 42) :: Value.int (q 43) :: Value.int (q 44) :: []))), ((a 34), .inl (T 0, 4, .inl f34)), ((a 35), .inl (T 0, 4, .inl f35)), ((a 36), .inl (T 1, 120, .inr (.inl f36))), ((a 37), .inl (T 3, 120, .inr (.inr (.inr (.inl f37)))))] sz) (va_Qi (fun (r : Int32) (u : (Nat → Int64) × (Nat → UInt64)) => ((¬ (0 ≤ x1.toInt ∧ x1.toInt ≤ 3) → r.toInt = -2) ∧ ((0 ≤ x1.toInt ∧ x1.toInt ≤ 3) → ((f34 (x1.toNatClampNeg)).toInt < 0 → r.toInt = -11) ∧ (¬ (f34 (x1.toNatClampNeg)).toInt < 0 → ((0 ≤ x2.toInt ∧ x2.toInt < (f35 (x1.toNatClampNeg)).toInt) → r.toInt = 1) ∧ (¬ (0 ≤ x2.toInt ∧ x2.toInt < (f35 (x1.toNatClampNeg)).toInt) → r.toInt = -12))))) (bW D (va_A [(h0, .inr (10, (Value.int (q 0) :: Value.int (q 1) :: Value.int (q 2) :: Value.int (q 3) :: Value.int (q 4) :: Value.int (q 5) :: Value.int (q 6) :: Value.int (q 7) :: Value.ref (a 8) :: Value.ref (a 9) :: Value.ref (a 10) :: Value.ref (a 11) :: Value.ref (a 12) :: Value.ref (a 13) :: Value.int (q 14) :: Value.long v :: Value.long w :: Value.ref (a 17) :: Value.ref (a 18) :: Value.ref (a 19) :: Value.ref (a 20) :: Value.ref (a 21) :: Value.ref (a 22) :: Value.ref (a 23) :: Value.int (q 24) :: Value.ref (a 25) :: Value.int (q 26) :: Value.ref (a 27) :: Value.int (q 28) :: Value.int (q 29) :: Value.int (q 30) :: Value.int (q 31) :: Value.int (q 32) :: Value.int (q 33) :: Value.ref (a 34) :: Value.ref (a 35) :: Value.ref (a 36) :: Value.ref (a 37) :: Value.ref (a 38) :: Value.ref (a 39) :: Value.ref (a 40) :: Value.int (q 41) :: Value.ref (a 42) :: Value.int (q 43) :: Value.int (q 44) :: []))), ((a 34), .inl (T 0, 4, .inl f34)), ((a 35), .inl (T 0, 4, .inl f35)), ((a 36), .inl (T 1, 120, .inr (.inl f36))), ((a 37), .inl (T 3, 120, .inr (.inr (.inr (.inl f37)))))] sz) (fun (u : (Nat → Int64) × (Nat → UInt64)) => [(h0, .inr (10, (Value.int (q 0) :: Value.int (q 1) :: Value.int (q 2) :: Value.int (q 3) :: Value.int (q 4) :: Value.int (q 5) :: Value.int (q 6) :: Value.int (q 7) :: Value.ref (a 8) :: Value.ref (a 9) :: Value.ref (a 10) :: Value.ref (a 11) :: Value.ref (a 12) :: Value.ref (a 13) :: Value.int (q 14) :: Value.long v :: Value.long w :: Value.ref (a 17) :: Value.ref (a 18) :: Value.ref (a 19) :: Value.ref (a 20) :: Value.ref (a 21) :: Value.ref (a 22) :: Value.ref (a 23) :: Value.int (q 24) :: Value.ref (a 25) :: Value.int (q 26) :: Value.ref (a 27) :: Value.int (q 28) :: Value.int (q 29) :: Value.int (q 30) :: Value.int (q 31) :: Value.int (q 32) :: Value.int (q 33) :: Value.ref (a 34) :: Value.ref (a 35) :: Value.ref (a 36) :: Value.ref (a 37) :: Value.ref (a 38) :: Value.ref (a 39) :: Value.ref (a 40) :: Value.int (q 41) :: Value.ref (a 42) :: Value.int (q 43) :: Value.int (q 44) :: []))), ((a 34), .inl (T 0, 4, .inl f34)), ((a 35), .inl (T 0, 4, .inl f35)), ((a 36), .inl (T 1, 120, .inr (.inl u.1))), ((a 37), .inl (T 3, 120, .inr (.inr (.inr (.inl u.2)))))])) (va_A [(h0, .inr (10, (Value.int (q 0) :: Value.int (q 1) :: Value.int (q 2) :: Value.int (q 3) :: Value.int (q 4) :: Value.int (q 5) :: Value.int (q 6) :: Value.int (q 7) :: Value.ref (a 8) :: Value.ref (a 9) :: Value.ref (a 10) :: Value.ref (a 11) :: Value.ref (a 12) :: Value.ref (a 13) :: Value.int (q 14) :: Value.long v :: Value.long w :: Value.ref (a 17) :: Value.ref (a 18) :: Value.ref (a 19) :: Value.ref (a 20) :: Value.ref (a 21) :: Value.ref (a 22) :: Value.ref (a 23) :: Value.int (q 24) :: Value.ref (a 25) :: Value.int (q 26) :: Value.ref (a 27) :: Value.int (q 28) :: Value.int (q 29) :: Value.int (q 30) :: Value.int (q 31) :: Value.int (q 32) :: Value.int (q 33) :: Value.ref (a 34) :: Value.ref (a 35) :: Value.ref (a 36) :: Value.ref (a 37) :: Value.ref (a 38) :: Value.ref (a 39) :: Value.ref (a 40) :: Value.int (q 41) :: Value.ref (a 42) :: Value.int (q 43) :: Value.int (q 44) :: []))), ((a 34), .inl (T 0, 4, .inl f34)), ((a 35), .inl (T 0, 4, .inl f35)), ((a 36), .inl (T 1, 120, .inr (.inl f36))), ((a 37), .inl (T 3, 120, .inr (.inr (.inr (.inl f37)))))] sz)) 0 0 (va_A [(h0, .inr (10, (Value.int (q 0) :: Value.int (q 1) :: Value.int (q 2) :: Value.int (q 3) :: Value.int (q 4) :: Value.int (q 5) :: Value.int (q 6) :: Value.int (q 7) :: Value.ref (a 8) :: Value.ref (a 9) :: Value.ref (a 10) :: Value.ref (a 11) :: Value.ref (a 12) :: Value.ref (a 13) :: Value.int (q 14) :: Value.long v :: Value.long w :: Value.ref (a 17) :: Value.ref (a 18) :: Value.ref (a 19) :: Value.ref (a 20) :: Value.ref (a 21) :: Value.ref (a 22) :: Value.ref (a 23) :: Value.int (q 24) :: Value.ref (a 25) :: Value.int (q 26) :: Value.ref (a 27) :: Value.int (q 28) :: Value.int (q 29) :: Value.int (q 30) :: Value.int (q 31) :: Value.int (q 32) :: Value.int (q 33) :: Value.ref (a 34) :: Value.ref (a 35) :: Value.ref (a 36) :: Value.ref (a 37) :: Value.ref (a 38) :: Value.ref (a 39) :: Value.ref (a 40) :: Value.int (q 41) :: Value.ref (a 42) :: Value.int (q 43) :: Value.int (q 44) :: []))), ((a 34), .inl (T 0, 4, .inl f34)), ((a 35), .inl (T 0, 4, .inl f35)), ((a 36), .inl (T 1, 120, .inr (.inl f36))), ((a 37), .inl (T 3, 120, .inr (.inr (.inr (.inl f37)))))] sz) := by
  refine MetD.ofW (cc := cX13_halve) (maxL := 5) (ret := (some .int)) (by decide +kernel) rfl ?_
  intro p e s m args below meth c s₁ B hml hv hd0
  obtain ⟨rfl, hsz, hP, hE0, hD0⟩ := hv
  have hx := B.exec
  have hb := B.bytes
  have hr := B.returns
  have hts0 := atoms_spec (ws := wsX13_halve) B.pre
  have hown0 : s.vm.findClass RX13 = some m.cls := findClass_of_methodNamed B.named
  have hlocks := B.notSynchronized
  subst hsz
  have hD := hD0.self (sz := s.heap.size)
  generalize hAe : va_A [(h0, .inr (10, (Value.int (q 0) :: Value.int (q 1) :: Value.int (q 2) :: Value.int (q 3) :: Value.int (q 4) :: Value.int (q 5) :: Value.int (q 6) :: Value.int (q 7) :: Value.ref (a 8) :: Value.ref (a 9) :: Value.ref (a 10) :: Value.ref (a 11) :: Value.ref (a 12) :: Value.ref (a 13) :: Value.int (q 14) :: Value.long v :: Value.long w :: Value.ref (a 17) :: Value.ref (a 18) :: Value.ref (a 19) :: Value.ref (a 20) :: Value.ref (a 21) :: Value.ref (a 22) :: Value.ref (a 23) :: Value.int (q 24) :: Value.ref (a 25) :: Value.int (q 26) :: Value.ref (a 27) :: Value.int (q 28) :: Value.int (q 29) :: Value.int (q 30) :: Value.int (q 31) :: Value.int (q 32) :: Value.int (q 33) :: Value.ref (a 34) :: Value.ref (a 35) :: Value.ref (a 36) :: Value.ref (a 37) :: Value.ref (a 38) :: Value.ref (a 39) :: Value.ref (a 40) :: Value.int (q 41) :: Value.ref (a 42) :: Value.int (q 43) :: Value.int (q 44) :: []))), ((a 34), .inl (T 0, 4, .inl f34)), ((a 35), .inl (T 0, 4, .inl f35)), ((a 36), .inl (T 1, 120, .inr (.inl f36))), ((a 37), .inl (T 3, 120, .inr (.inr (.inr (.inl f37)))))] s.heap.size = A at hD ⊢
  have hA : ∀ q : Nat, s.heap.size ≤ q → A q := fun q h => by rw [← hAe]; exact Or.inr h
  have hS : va_S A s.heap s.heap [] := va_S.rf
  have hP : va_P D vwCl [(h0, .inr (10, (Value.int (q 0) :: Value.int (q 1) :: Value.int (q 2) :: Value.int (q 3) :: Value.int (q 4) :: Value.int (q 5) :: Value.int (q 6) :: Value.int (q 7) :: Value.ref (a 8) :: Value.ref (a 9) :: Value.ref (a 10) :: Value.ref (a 11) :: Value.ref (a 12) :: Value.ref (a 13) :: Value.int (q 14) :: Value.long v :: Value.long w :: Value.ref (a 17) :: Value.ref (a 18) :: Value.ref (a 19) :: Value.ref (a 20) :: Value.ref (a 21) :: Value.ref (a 22) :: Value.ref (a 23) :: Value.int (q 24) :: Value.ref (a 25) :: Value.int (q 26) :: Value.ref (a 27) :: Value.int (q 28) :: Value.int (q 29) :: Value.int (q 30) :: Value.int (q 31) :: Value.int (q 32) :: Value.int (q 33) :: Value.ref (a 34) :: Value.ref (a 35) :: Value.ref (a 36) :: Value.ref (a 37) :: Value.ref (a 38) :: Value.ref (a 39) :: Value.ref (a 40) :: Value.int (q 41) :: Value.ref (a 42) :: Value.int (q 43) :: Value.int (q 44) :: []))), ((a 34), .inl (T 0, 4, .inl f34)), ((a 35), .inl (T 0, 4, .inl f35)), ((a 36), .inl (T 1, 120, .inr (.inl f36))), ((a 37), .inl (T 3, 120, .inr (.inr (.inr (.inl f37)))))] s.heap := hP
  have hl := lv_entry ([.ref h0, .int x1, .int x2]) (n := 5) (Nat.le_of_ble_eq_true rfl)
  rw [lg_entry_eq]
  generalize (lg_sl ([.ref h0, .int x1, .int x2]) ++ List.replicate (5 - (lg_sl ([.ref h0, .int x1, .int x2])).length) Slot.unset).toArray = ls at hl ⊢
  have hl : lv_has ls 5 [(0, .ref h0), (1, .int x1), (2, .int x2)] := hl
  clear hD0
  have hts := dr_words hts0 s.drawn
  have hE : ekK D T (s.setDrawn s.drawn) := ekK.same (u := s) rfl hE0
  have hown : (s.setDrawn s.drawn).vm.findClass RX13 = some m.cls := hown0
  refine lv_aload_n hx hb dX13_halve_0 rfl (lv_at hl 0 rfl) ?_
  refine lv_iload_n hx hb dX13_halve_1 rfl (lv_at hl 1 rfl) ?_
  refine lv_iload_n hx hb dX13_halve_2 rfl (lv_at hl 2 rfl) ?_
  refine vp_callSi (W.runV (As := [.int x1, .int x2]) (rest := []) ⟨hx, hb, hml, hown, hts⟩ (c_X13_wrong l D T h0 [.int (q 0), .int (q 1), .int (q 2), .int (q 3), .int (q 4), .int (q 5), .int (q 6), .int (q 7), .ref (a 8), .ref (a 9), .ref (a 10), .ref (a 11), .ref (a 12), .ref (a 13), .int (q 14), .long v, .long w, .ref (a 17), .ref (a 18), .ref (a 19), .ref (a 20), .ref (a 21), .ref (a 22), .ref (a 23), .int (q 24), .ref (a 25), .int (q 26), .ref (a 27), .int (q 28), .int (q 29), .int (q 30), .int (q 31), .int (q 32), .int (q 33), .ref (a 34), .ref (a 35), .ref (a 36), .ref (a 37), .ref (a 38), .ref (a 39), .ref (a 40), .int (q 41), .ref (a 42), .int (q 43), .int (q 44)] (a 34) f34 (a 35) f35 x1 x2 rfl rfl hsz) (cwV 2 hts gX13_halve_X13_wrong rfl rfl rfl hv_X13_wrong ⟨Nat.le_of_ble_eq_true rfl, Nat.le_of_ble_eq_true rfl⟩) (pR_V (q := (RX13, TX13, 45)) (ci := 10) (q0 := 0) hP hE rfl rfl [0, 1, 2] rfl) rfl rfl hl.1 rfl (lv_room (Nat.le_of_ble_eq_true rfl)) dX13_halve_3 ⟨Nat.le_of_ble_eq_true rfl, Nat.le_of_ble_eq_true rfl⟩) (fun r_1 hr_1 => ?_)
  refine lv_istore_n (lv' := [(3, .int r_1), (0, .ref h0), (1, .int x1), (2, .int x2)]) hx hb dX13_halve_6 rfl hl (by decide +kernel) rfl (fun ls hl => ?_)
  refine lv_iload_n hx hb dX13_halve_7 rfl (lv_at hl 0 rfl) ?_
  refine lv_if_eq (tgt := 13) hx hb dX13_halve_8 (by decide +kernel) (fun c_2 => ?_) (fun c_2 => ?_)
  · rw [fa_eq] at c_2
    try rw [ti_0] at c_2
    have hwr := hr_1.1 (by omega)
    have h30 : (30 * x1).toInt = 30 * x1.toInt := by rw [fb_mulI (by rw [ti_30]; omega) (by rw [ti_30]; omega), ti_30]
    refine lv_bipush (v := 30) hx hb dX13_halve_13 (by decide +kernel) ?_
    refine lv_iload_n hx hb dX13_halve_15 rfl (lv_at hl 2 rfl) ?_
    refine lv_imul hx hb dX13_halve_16 ?_
    refine lv_iload_n hx hb dX13_halve_17 rfl (lv_at hl 3 rfl) ?_
    refine lv_iadd hx hb dX13_halve_18 ?_
    refine lv_topi (fun z_3 ez_3 => ?_)
    refine lv_istore (lv' := [(4, .int z_3), (3, .int r_1), (0, .ref h0), (1, .int x1), (2, .int x2)]) hx hb dX13_halve_19 hl (by decide +kernel) rfl (fun ls hl => ?_)
    have hz9 : z_3.toInt = 30 * x1.toInt + x2.toInt := by rw [ez_3, fb_addI (by omega) (by omega)]; omega
    refine lv_aload_n hx hb dX13_halve_21 rfl (lv_at hl 2 rfl) ?_
    refine va_get (D := D) (ci := 10) (v := .ref (a 36)) (C := RX13) (T := TX13) (N := 45) hx hb hts in_X13_halve_X13 hown hE.1 hP 0 rfl rfl 36 (by decide +kernel) (hts (.fieldLink RX13 110 "ClauseBookModel" "whole" "[J") (List.mem_of_getElem? (i := 1) rfl)) (fun _ h9 => h9) rfl dX13_halve_22 ?_
    refine lv_iload hx hb dX13_halve_25 (lv_at hl 0 rfl) ?_
    refine lv_aload_n hx hb dX13_halve_27 rfl (lv_at hl 2 rfl) ?_
    refine va_get (D := D) (ci := 10) (v := .ref (a 36)) (C := RX13) (T := TX13) (N := 45) hx hb hts in_X13_halve_X13 hown hE.1 hP 0 rfl rfl 36 (by decide +kernel) (hts (.fieldLink RX13 110 "ClauseBookModel" "whole" "[J") (List.mem_of_getElem? (i := 1) rfl)) (fun _ h9 => h9) rfl dX13_halve_28 ?_
    refine lv_iload hx hb dX13_halve_31 (lv_at hl 0 rfl) ?_
    refine va_lald hx hb hE.1 hP 3 1 rfl rfl (by rw [vp_in_iff]; first | omega | (rw [fb_addI (by omega) (by omega)]; omega)) dX13_halve_33 ?_
    refine lv_topl (fun z_4 ez_4 => ?_)
    refine lv_ldc2 (v := 2) hx hb hown (hts (.constantLong RX13 184 (2)) (List.mem_of_getElem? (i := 2) rfl)) dX13_halve_34 ?_
    refine lv_ldiv hx hb dX13_halve_37 (by decide +kernel) ?_
    refine va_last hx hb hE.1 hP hD hS 3 1 rfl rfl (by rw [vp_in_iff]; first | omega | (rw [fb_addI (by omega) (by omega)]; omega)) dX13_halve_38 (fun H locs hP hD hS => ?_)
    obtain ⟨hP, hD⟩ := wPD [(h0, .inr (10, (Value.int (q 0) :: Value.int (q 1) :: Value.int (q 2) :: Value.int (q 3) :: Value.int (q 4) :: Value.int (q 5) :: Value.int (q 6) :: Value.int (q 7) :: Value.ref (a 8) :: Value.ref (a 9) :: Value.ref (a 10) :: Value.ref (a 11) :: Value.ref (a 12) :: Value.ref (a 13) :: Value.int (q 14) :: Value.long v :: Value.long w :: Value.ref (a 17) :: Value.ref (a 18) :: Value.ref (a 19) :: Value.ref (a 20) :: Value.ref (a 21) :: Value.ref (a 22) :: Value.ref (a 23) :: Value.int (q 24) :: Value.ref (a 25) :: Value.int (q 26) :: Value.ref (a 27) :: Value.int (q 28) :: Value.int (q 29) :: Value.int (q 30) :: Value.int (q 31) :: Value.int (q 32) :: Value.int (q 33) :: Value.ref (a 34) :: Value.ref (a 35) :: Value.ref (a 36) :: Value.ref (a 37) :: Value.ref (a 38) :: Value.ref (a 39) :: Value.ref (a 40) :: Value.int (q 41) :: Value.ref (a 42) :: Value.int (q 43) :: Value.int (q 44) :: []))), ((a 34), .inl (T 0, 4, .inl f34)), ((a 35), .inl (T 0, 4, .inl f35)), ((a 36), .inl (T 1, 120, .inr (.inl (vp_updL f36 (z_3.toNatClampNeg) (z_4 / 2))))), ((a 37), .inl (T 3, 120, .inr (.inr (.inr (.inl f37)))))] hP hD rfl
    refine lv_aload_n hx hb dX13_halve_39 rfl (lv_at hl 2 rfl) ?_
    refine va_get (D := D) (ci := 10) (v := .ref (a 37)) (C := RX13) (T := TX13) (N := 45) hx hb hts in_X13_halve_X13 hown hE.1 hP 0 rfl rfl 37 (by decide +kernel) (hts (.fieldLink RX13 113 "ClauseBookModel" "host" "[D") (List.mem_of_getElem? (i := 3) rfl)) (fun _ h9 => h9) rfl dX13_halve_40 ?_
    refine lv_iload hx hb dX13_halve_43 (lv_at hl 0 rfl) ?_
    refine lv_aload_n hx hb dX13_halve_45 rfl (lv_at hl 2 rfl) ?_
    refine va_get (D := D) (ci := 10) (v := .ref (a 34)) (C := RX13) (T := TX13) (N := 45) hx hb hts in_X13_halve_X13 hown hE.1 hP 0 rfl rfl 34 (by decide +kernel) (hts (.fieldLink RX13 104 "ClauseBookModel" "sorts" "[I") (List.mem_of_getElem? (i := 4) rfl)) (fun _ h9 => h9) rfl dX13_halve_46 ?_
    refine lv_iload_n hx hb dX13_halve_49 rfl (lv_at hl 3 rfl) ?_
    refine va_iald hx hb hE.1 hP 1 0 rfl rfl (by rw [vp_in_iff]; first | omega | (rw [fb_addI (by omega) (by omega)]; omega)) dX13_halve_50 ?_
    refine lv_topi (fun z_5 ez_5 => ?_)
    refine lv_iconst (v := 2) hx hb dX13_halve_51 (by decide +kernel) ?_
    refine lv_icmp_ne (tgt := 69) hx hb dX13_halve_52 (by decide +kernel) (fun c_6 => ?_) (fun c_6 => ?_)
    · rw [fa_eq] at c_6
      try rw [ti_2] at c_6
      refine lv_aload_n hx hb dX13_halve_69 rfl (lv_at hl 2 rfl) ?_
      refine va_get (D := D) (ci := 10) (v := .ref (a 37)) (C := RX13) (T := TX13) (N := 45) hx hb hts in_X13_halve_X13 hown hE.1 hP 0 rfl rfl 37 (by decide +kernel) (hts (.fieldLink RX13 113 "ClauseBookModel" "host" "[D") (List.mem_of_getElem? (i := 3) rfl)) (fun _ h9 => h9) rfl dX13_halve_70 ?_
      refine lv_iload hx hb dX13_halve_73 (lv_at hl 0 rfl) ?_
      refine va_dald hx hb hE.1 hP 4 3 rfl rfl (by rw [vp_in_iff]; first | omega | (rw [fb_addI (by omega) (by omega)]; omega)) dX13_halve_75 ?_
      obtain ⟨z_7, ez_7⟩ : ∃ y : UInt64, y = (f37 z_3.toNatClampNeg) := ⟨_, rfl⟩
      refine W.eq (g2 := F0 m 76 ls [.double z_7, .int z_3, .ref (a 37)]) (by rw [ez_7]) ?_
      clear ez_7
      refine lv_ldc2d (v := 4611686018427387904) hx hb hown (hts (.constantDouble RX13 415 (4611686018427387904)) (List.mem_of_getElem? (i := 5) rfl)) dX13_halve_76 ?_
      refine lv_ddiv_any hd0 lw_bits hx hb dX13_halve_79 (fun r_8 d_9 _ hd_9 => ?_)
      have hts := dr_words hts0 d_9
      have hE : ekK D T (s.setDrawn d_9) := ekK.same (u := s) rfl hE0
      have hown : (s.setDrawn d_9).vm.findClass RX13 = some m.cls := hown0
      refine va_dast hx hb hE.1 hP hD hS 4 3 rfl rfl (by rw [vp_in_iff]; first | omega | (rw [fb_addI (by omega) (by omega)]; omega)) dX13_halve_80 (fun H locs hP hD hS => ?_)
      obtain ⟨hP, hD⟩ := wPD [(h0, .inr (10, (Value.int (q 0) :: Value.int (q 1) :: Value.int (q 2) :: Value.int (q 3) :: Value.int (q 4) :: Value.int (q 5) :: Value.int (q 6) :: Value.int (q 7) :: Value.ref (a 8) :: Value.ref (a 9) :: Value.ref (a 10) :: Value.ref (a 11) :: Value.ref (a 12) :: Value.ref (a 13) :: Value.int (q 14) :: Value.long v :: Value.long w :: Value.ref (a 17) :: Value.ref (a 18) :: Value.ref (a 19) :: Value.ref (a 20) :: Value.ref (a 21) :: Value.ref (a 22) :: Value.ref (a 23) :: Value.int (q 24) :: Value.ref (a 25) :: Value.int (q 26) :: Value.ref (a 27) :: Value.int (q 28) :: Value.int (q 29) :: Value.int (q 30) :: Value.int (q 31) :: Value.int (q 32) :: Value.int (q 33) :: Value.ref (a 34) :: Value.ref (a 35) :: Value.ref (a 36) :: Value.ref (a 37) :: Value.ref (a 38) :: Value.ref (a 39) :: Value.ref (a 40) :: Value.int (q 41) :: Value.ref (a 42) :: Value.int (q 43) :: Value.int (q 44) :: []))), ((a 34), .inl (T 0, 4, .inl f34)), ((a 35), .inl (T 0, 4, .inl f35)), ((a 36), .inl (T 1, 120, .inr (.inl (vp_updL f36 (z_3.toNatClampNeg) (z_4 / 2))))), ((a 37), .inl (T 3, 120, .inr (.inr (.inr (.inl (vf_upd f37 (z_3.toNatClampNeg) r_8))))))] hP hD rfl
      refine lv_iconst (v := 1) hx hb dX13_halve_81 (by decide +kernel) ?_
      refine W.endD hd_9 ?_
      exact W.iret hx hb hr (fun t ht hW => ⟨⟨_, ((vp_updL f36 (z_3.toNatClampNeg) (z_4 / 2)), (vf_upd f37 (z_3.toNatClampNeg) r_8)), rfl, (show (¬ (0 ≤ x1.toInt ∧ x1.toInt ≤ 3) → (1 : Int32).toInt = -2) ∧ ((0 ≤ x1.toInt ∧ x1.toInt ≤ 3) → ((f34 (x1.toNatClampNeg)).toInt < 0 → (1 : Int32).toInt = -11) ∧ (¬ (f34 (x1.toNatClampNeg)).toInt < 0 → ((0 ≤ x2.toInt ∧ x2.toInt < (f35 (x1.toNatClampNeg)).toInt) → (1 : Int32).toInt = 1) ∧ (¬ (0 ≤ x2.toInt ∧ x2.toInt < (f35 (x1.toNatClampNeg)).toInt) → (1 : Int32).toInt = -12))) from (by have h9r : (1 : Int32).toInt = 1 := (by decide +kernel); omega)), by rw [ht]; exact hP.sub [0, 1, 2, 3, 4] rfl, hD.sub [0, 1, 2, 3, 4] (by decide +kernel) rfl⟩, hS.F ht⟩) hS.2.2 dX13_halve_82
    · rw [fa_eq] at c_6
      try rw [ti_2] at c_6
      refine lv_aload_n hx hb dX13_halve_55 rfl (lv_at hl 2 rfl) ?_
      refine va_get (D := D) (ci := 10) (v := .ref (a 37)) (C := RX13) (T := TX13) (N := 45) hx hb hts in_X13_halve_X13 hown hE.1 hP 0 rfl rfl 37 (by decide +kernel) (hts (.fieldLink RX13 113 "ClauseBookModel" "host" "[D") (List.mem_of_getElem? (i := 3) rfl)) (fun _ h9 => h9) rfl dX13_halve_56 ?_
      refine lv_iload hx hb dX13_halve_59 (lv_at hl 0 rfl) ?_
      refine va_dald hx hb hE.1 hP 4 3 rfl rfl (by rw [vp_in_iff]; first | omega | (rw [fb_addI (by omega) (by omega)]; omega)) dX13_halve_61 ?_
      obtain ⟨z_10, ez_10⟩ : ∃ y : UInt64, y = (f37 z_3.toNatClampNeg) := ⟨_, rfl⟩
      refine W.eq (g2 := F0 m 62 ls [.double z_10, .int z_3, .ref (a 37)]) (by rw [ez_10]) ?_
      clear ez_10
      refine lv_d2f_any hd0 lw_bits hx hb dX13_halve_62 (fun r_11 d_12 _ hd_12 => ?_)
      have hts := dr_words hts0 d_12
      have hE : ekK D T (s.setDrawn d_12) := ekK.same (u := s) rfl hE0
      have hown : (s.setDrawn d_12).vm.findClass RX13 = some m.cls := hown0
      refine lv_fconst2 hx hb dX13_halve_63 ?_
      refine lv_fdiv_any hd_12 lw_bits hx hb dX13_halve_64 (fun r_13 d_14 _ hd_14 => ?_)
      have hts := dr_words hts0 d_14
      have hE : ekK D T (s.setDrawn d_14) := ekK.same (u := s) rfl hE0
      have hown : (s.setDrawn d_14).vm.findClass RX13 = some m.cls := hown0
      refine lv_f2d_any hd_14 lw_bits hx hb dX13_halve_65 (fun r_15 d_16 _ hd_16 => ?_)
      have hts := dr_words hts0 d_16
      have hE : ekK D T (s.setDrawn d_16) := ekK.same (u := s) rfl hE0
      have hown : (s.setDrawn d_16).vm.findClass RX13 = some m.cls := hown0
      refine lv_goto (tgt := 80) hx hb dX13_halve_66 (by decide +kernel) ?_
      refine va_dast hx hb hE.1 hP hD hS 4 3 rfl rfl (by rw [vp_in_iff]; first | omega | (rw [fb_addI (by omega) (by omega)]; omega)) dX13_halve_80 (fun H locs hP hD hS => ?_)
      obtain ⟨hP, hD⟩ := wPD [(h0, .inr (10, (Value.int (q 0) :: Value.int (q 1) :: Value.int (q 2) :: Value.int (q 3) :: Value.int (q 4) :: Value.int (q 5) :: Value.int (q 6) :: Value.int (q 7) :: Value.ref (a 8) :: Value.ref (a 9) :: Value.ref (a 10) :: Value.ref (a 11) :: Value.ref (a 12) :: Value.ref (a 13) :: Value.int (q 14) :: Value.long v :: Value.long w :: Value.ref (a 17) :: Value.ref (a 18) :: Value.ref (a 19) :: Value.ref (a 20) :: Value.ref (a 21) :: Value.ref (a 22) :: Value.ref (a 23) :: Value.int (q 24) :: Value.ref (a 25) :: Value.int (q 26) :: Value.ref (a 27) :: Value.int (q 28) :: Value.int (q 29) :: Value.int (q 30) :: Value.int (q 31) :: Value.int (q 32) :: Value.int (q 33) :: Value.ref (a 34) :: Value.ref (a 35) :: Value.ref (a 36) :: Value.ref (a 37) :: Value.ref (a 38) :: Value.ref (a 39) :: Value.ref (a 40) :: Value.int (q 41) :: Value.ref (a 42) :: Value.int (q 43) :: Value.int (q 44) :: []))), ((a 34), .inl (T 0, 4, .inl f34)), ((a 35), .inl (T 0, 4, .inl f35)), ((a 36), .inl (T 1, 120, .inr (.inl (vp_updL f36 (z_3.toNatClampNeg) (z_4 / 2))))), ((a 37), .inl (T 3, 120, .inr (.inr (.inr (.inl (vf_upd f37 (z_3.toNatClampNeg) r_15))))))] hP hD rfl
      refine lv_iconst (v := 1) hx hb dX13_halve_81 (by decide +kernel) ?_
      refine W.endD hd_16 ?_
      exact W.iret hx hb hr (fun t ht hW => ⟨⟨_, ((vp_updL f36 (z_3.toNatClampNeg) (z_4 / 2)), (vf_upd f37 (z_3.toNatClampNeg) r_15)), rfl, (show (¬ (0 ≤ x1.toInt ∧ x1.toInt ≤ 3) → (1 : Int32).toInt = -2) ∧ ((0 ≤ x1.toInt ∧ x1.toInt ≤ 3) → ((f34 (x1.toNatClampNeg)).toInt < 0 → (1 : Int32).toInt = -11) ∧ (¬ (f34 (x1.toNatClampNeg)).toInt < 0 → ((0 ≤ x2.toInt ∧ x2.toInt < (f35 (x1.toNatClampNeg)).toInt) → (1 : Int32).toInt = 1) ∧ (¬ (0 ≤ x2.toInt ∧ x2.toInt < (f35 (x1.toNatClampNeg)).toInt) → (1 : Int32).toInt = -12))) from (by have h9r : (1 : Int32).toInt = 1 := (by decide +kernel); omega)), by rw [ht]; exact hP.sub [0, 1, 2, 3, 4] rfl, hD.sub [0, 1, 2, 3, 4] (by decide +kernel) rfl⟩, hS.F ht⟩) hS.2.2 dX13_halve_82
  · rw [fa_eq] at c_2
    try rw [ti_0] at c_2
    refine lv_iload_n hx hb dX13_halve_11 rfl (lv_at hl 0 rfl) ?_
    refine W.endD hd0 ?_
    exact W.iret hx hb hr (fun t ht hW => ⟨⟨_, (f36, f37), rfl, (show (¬ (0 ≤ x1.toInt ∧ x1.toInt ≤ 3) → r_1.toInt = -2) ∧ ((0 ≤ x1.toInt ∧ x1.toInt ≤ 3) → ((f34 (x1.toNatClampNeg)).toInt < 0 → r_1.toInt = -11) ∧ (¬ (f34 (x1.toNatClampNeg)).toInt < 0 → ((0 ≤ x2.toInt ∧ x2.toInt < (f35 (x1.toNatClampNeg)).toInt) → r_1.toInt = 1) ∧ (¬ (0 ≤ x2.toInt ∧ x2.toInt < (f35 (x1.toNatClampNeg)).toInt) → r_1.toInt = -12))) from (by omega)), by rw [ht]; exact hP.sub [0, 1, 2, 3, 4] rfl, hD.sub [0, 1, 2, 3, 4] (by decide +kernel) rfl⟩, hS.F ht⟩) hS.2.2 dX13_halve_12
theorem dX13_read_0 : decode cX13_read 0 = .ok (.iload_n 1, 1) := by decide +kernel
theorem dX13_read_1 : decode cX13_read 1 = .ok (.invokestatic 332, 3) := by decide +kernel
theorem dX13_read_10 : decode cX13_read 10 = .ok (.ldc2_w 408, 3) := by decide +kernel
theorem dX13_read_116 : decode cX13_read 116 = .ok (.iload 9, 2) := by decide +kernel
theorem dX13_read_118 : decode cX13_read 118 = .ok (.ifCond .eq 8, 3) := by decide +kernel
theorem dX13_read_121 : decode cX13_read 121 = .ok (.lload 5, 2) := by decide +kernel
theorem dX13_read_123 : decode cX13_read 123 = .ok (.goto 28, 3) := by decide +kernel
theorem dX13_read_126 : decode cX13_read 126 = .ok (.aload_n 0, 1) := by decide +kernel
theorem dX13_read_127 : decode cX13_read 127 = .ok (.getfield 104, 3) := by decide +kernel
theorem dX13_read_13 : decode cX13_read 13 = .ok (.invokestatic 175, 3) := by decide +kernel
theorem dX13_read_130 : decode cX13_read 130 = .ok (.iload_n 1, 1) := by decide +kernel
theorem dX13_read_131 : decode cX13_read 131 = .ok (.iaload, 1) := by decide +kernel
theorem dX13_read_132 : decode cX13_read 132 = .ok (.iconst 2, 1) := by decide +kernel
theorem dX13_read_133 : decode cX13_read 133 = .ok (.if_icmp .ne 13, 3) := by decide +kernel
theorem dX13_read_136 : decode cX13_read 136 = .ok (.dload 7, 2) := by decide +kernel
theorem dX13_read_138 : decode cX13_read 138 = .ok (.d2f, 1) := by decide +kernel
theorem dX13_read_139 : decode cX13_read 139 = .ok (.invokestatic 282, 3) := by decide +kernel
theorem dX13_read_142 : decode cX13_read 142 = .ok (.i2l, 1) := by decide +kernel
theorem dX13_read_143 : decode cX13_read 143 = .ok (.goto 8, 3) := by decide +kernel
theorem dX13_read_146 : decode cX13_read 146 = .ok (.dload 7, 2) := by decide +kernel
theorem dX13_read_148 : decode cX13_read 148 = .ok (.invokestatic 288, 3) := by decide +kernel
theorem dX13_read_151 : decode cX13_read 151 = .ok (.lreturn, 1) := by decide +kernel
theorem dX13_read_152 : decode cX13_read 152 = .ok (.iload 9, 2) := by decide +kernel
theorem dX13_read_154 : decode cX13_read 154 = .ok (.ifCond .eq 10, 3) := by decide +kernel
theorem dX13_read_157 : decode cX13_read 157 = .ok (.lload 5, 2) := by decide +kernel
theorem dX13_read_159 : decode cX13_read 159 = .ok (.l2i, 1) := by decide +kernel
theorem dX13_read_16 : decode cX13_read 16 = .ok (.ifCond .ne 9, 3) := by decide +kernel
theorem dX13_read_160 : decode cX13_read 160 = .ok (.i2l, 1) := by decide +kernel
theorem dX13_read_161 : decode cX13_read 161 = .ok (.goto 7, 3) := by decide +kernel
theorem dX13_read_164 : decode cX13_read 164 = .ok (.dload 7, 2) := by decide +kernel
theorem dX13_read_166 : decode cX13_read 166 = .ok (.d2i, 1) := by decide +kernel
theorem dX13_read_167 : decode cX13_read 167 = .ok (.i2l, 1) := by decide +kernel
theorem dX13_read_168 : decode cX13_read 168 = .ok (.lreturn, 1) := by decide +kernel
theorem dX13_read_169 : decode cX13_read 169 = .ok (.iload 9, 2) := by decide +kernel
theorem dX13_read_171 : decode cX13_read 171 = .ok (.ifCond .eq 8, 3) := by decide +kernel
theorem dX13_read_174 : decode cX13_read 174 = .ok (.lload 5, 2) := by decide +kernel
theorem dX13_read_176 : decode cX13_read 176 = .ok (.goto 6, 3) := by decide +kernel
theorem dX13_read_179 : decode cX13_read 179 = .ok (.dload 7, 2) := by decide +kernel
theorem dX13_read_181 : decode cX13_read 181 = .ok (.d2l, 1) := by decide +kernel
theorem dX13_read_182 : decode cX13_read 182 = .ok (.lreturn, 1) := by decide +kernel
theorem dX13_read_183 : decode cX13_read 183 = .ok (.iload 9, 2) := by decide +kernel
theorem dX13_read_185 : decode cX13_read 185 = .ok (.ifCond .eq 9, 3) := by decide +kernel
theorem dX13_read_188 : decode cX13_read 188 = .ok (.lload 5, 2) := by decide +kernel
theorem dX13_read_19 : decode cX13_read 19 = .ok (.bipush (-2), 2) := by decide +kernel
theorem dX13_read_190 : decode cX13_read 190 = .ok (.l2d, 1) := by decide +kernel
theorem dX13_read_191 : decode cX13_read 191 = .ok (.goto 5, 3) := by decide +kernel
theorem dX13_read_194 : decode cX13_read 194 = .ok (.dload 7, 2) := by decide +kernel
theorem dX13_read_196 : decode cX13_read 196 = .ok (.ldc2_w 413, 3) := by decide +kernel
theorem dX13_read_199 : decode cX13_read 199 = .ok (.drem, 1) := by decide +kernel
theorem dX13_read_200 : decode cX13_read 200 = .ok (.invokestatic 288, 3) := by decide +kernel
theorem dX13_read_203 : decode cX13_read 203 = .ok (.lreturn, 1) := by decide +kernel
theorem dX13_read_21 : decode cX13_read 21 = .ok (.invokestatic 270, 3) := by decide +kernel
theorem dX13_read_24 : decode cX13_read 24 = .ok (.lreturn, 1) := by decide +kernel
theorem dX13_read_25 : decode cX13_read 25 = .ok (.aload_n 0, 1) := by decide +kernel
theorem dX13_read_26 : decode cX13_read 26 = .ok (.iload_n 1, 1) := by decide +kernel
theorem dX13_read_27 : decode cX13_read 27 = .ok (.iload_n 2, 1) := by decide +kernel
theorem dX13_read_28 : decode cX13_read 28 = .ok (.invokevirtual 410, 3) := by decide +kernel
theorem dX13_read_31 : decode cX13_read 31 = .ok (.istore 4, 2) := by decide +kernel
theorem dX13_read_33 : decode cX13_read 33 = .ok (.iload 4, 2) := by decide +kernel
theorem dX13_read_35 : decode cX13_read 35 = .ok (.ifCond .eq 9, 3) := by decide +kernel
theorem dX13_read_38 : decode cX13_read 38 = .ok (.iload 4, 2) := by decide +kernel
theorem dX13_read_4 : decode cX13_read 4 = .ok (.ifCond .eq 15, 3) := by decide +kernel
theorem dX13_read_40 : decode cX13_read 40 = .ok (.invokestatic 270, 3) := by decide +kernel
theorem dX13_read_43 : decode cX13_read 43 = .ok (.lreturn, 1) := by decide +kernel
theorem dX13_read_44 : decode cX13_read 44 = .ok (.aload_n 0, 1) := by decide +kernel
theorem dX13_read_45 : decode cX13_read 45 = .ok (.getfield 110, 3) := by decide +kernel
theorem dX13_read_48 : decode cX13_read 48 = .ok (.bipush 30, 2) := by decide +kernel
theorem dX13_read_50 : decode cX13_read 50 = .ok (.iload_n 1, 1) := by decide +kernel
theorem dX13_read_51 : decode cX13_read 51 = .ok (.imul, 1) := by decide +kernel
theorem dX13_read_52 : decode cX13_read 52 = .ok (.iload_n 2, 1) := by decide +kernel
theorem dX13_read_53 : decode cX13_read 53 = .ok (.iadd, 1) := by decide +kernel
theorem dX13_read_54 : decode cX13_read 54 = .ok (.laload, 1) := by decide +kernel
theorem dX13_read_55 : decode cX13_read 55 = .ok (.lstore 5, 2) := by decide +kernel
theorem dX13_read_57 : decode cX13_read 57 = .ok (.aload_n 0, 1) := by decide +kernel
theorem dX13_read_58 : decode cX13_read 58 = .ok (.getfield 113, 3) := by decide +kernel
theorem dX13_read_61 : decode cX13_read 61 = .ok (.bipush 30, 2) := by decide +kernel
theorem dX13_read_63 : decode cX13_read 63 = .ok (.iload_n 1, 1) := by decide +kernel
theorem dX13_read_64 : decode cX13_read 64 = .ok (.imul, 1) := by decide +kernel
theorem dX13_read_65 : decode cX13_read 65 = .ok (.iload_n 2, 1) := by decide +kernel
theorem dX13_read_66 : decode cX13_read 66 = .ok (.iadd, 1) := by decide +kernel
theorem dX13_read_67 : decode cX13_read 67 = .ok (.daload, 1) := by decide +kernel
theorem dX13_read_68 : decode cX13_read 68 = .ok (.dstore 7, 2) := by decide +kernel
theorem dX13_read_7 : decode cX13_read 7 = .ok (.iload_n 3, 1) := by decide +kernel
theorem dX13_read_70 : decode cX13_read 70 = .ok (.aload_n 0, 1) := by decide +kernel
theorem dX13_read_71 : decode cX13_read 71 = .ok (.getfield 104, 3) := by decide +kernel
theorem dX13_read_74 : decode cX13_read 74 = .ok (.iload_n 1, 1) := by decide +kernel
theorem dX13_read_75 : decode cX13_read 75 = .ok (.iaload, 1) := by decide +kernel
theorem dX13_read_76 : decode cX13_read 76 = .ok (.iconst 2, 1) := by decide +kernel
theorem dX13_read_77 : decode cX13_read 77 = .ok (.if_icmp .ge 7, 3) := by decide +kernel
theorem dX13_read_8 : decode cX13_read 8 = .ok (.i2l, 1) := by decide +kernel
theorem dX13_read_80 : decode cX13_read 80 = .ok (.iconst 1, 1) := by decide +kernel
theorem dX13_read_81 : decode cX13_read 81 = .ok (.goto 4, 3) := by decide +kernel
theorem dX13_read_84 : decode cX13_read 84 = .ok (.iconst 0, 1) := by decide +kernel
theorem dX13_read_85 : decode cX13_read 85 = .ok (.istore 9, 2) := by decide +kernel
theorem dX13_read_87 : decode cX13_read 87 = .ok (.iload_n 3, 1) := by decide +kernel
theorem dX13_read_88 : decode cX13_read 88 = .ok (.tableswitch 95 0 2 #[28, 64, 81], 28) := by decide +kernel
theorem dX13_read_9 : decode cX13_read 9 = .ok (.lconst 0, 1) := by decide +kernel
set_option maxRecDepth 20000 in
theorem ggX13_read_Jxe99ae_doubleToLongBits_ccdee : GoodIn wsX13_read wsJxe99ae_doubleToLongBits_ccdee := goodIn_r _ [37, 38, 39, 40, 41, 42, 43, 44, 36, 45] rfl (by decide +kernel)
set_option maxRecDepth 20000 in
theorem ggX13_read_Jxf58ca_floatToIntBits_5c35a : GoodIn wsX13_read wsJxf58ca_floatToIntBits_5c35a := goodIn_r _ [25, 26, 27, 28, 29, 30, 31, 32, 24, 33] rfl (by decide +kernel)
set_option maxRecDepth 20000 in
theorem ggX13_read_X13_in : GoodIn wsX13_read wsX13_in := goodIn_r _ [12] rfl (by decide +kernel)
set_option maxRecDepth 20000 in
theorem ggX13_read_X13_isSheet : GoodIn wsX13_read wsX13_isSheet := goodIn_r _ [9, 1, 10, 11, 8, 12] rfl (by decide +kernel)
set_option maxRecDepth 20000 in
theorem ggX13_read_X13_refused : GoodIn wsX13_read wsX13_refused := goodIn_r _ [15, 16] rfl (by decide +kernel)
set_option maxRecDepth 20000 in
theorem ggX13_read_X13_wrong : GoodIn wsX13_read wsX13_wrong := goodIn_r _ [20, 4, 21, 6, 7, 8, 9, 1, 10, 11, 12, 46, 47, 48, 49, 50, 51, 52, 53, 54, 55, 56, 57, 58, 59, 60, 61, 62, 63, 64, 65, 66, 67, 68, 69, 70, 71, 72, 73, 74, 75, 76, 77, 78, 79, 80, 81, 82, 83, 84, 85, 86, 87, 88, 89, 90] rfl (by decide +kernel)
set_option maxRecDepth 20000 in
theorem gX13_read_Jxe99ae_doubleToLongBits_ccdee : GoodIn wsX13_read (va_wsS RX13 288 yJxe99ae_doubleToLongBits_ccdee wsJxe99ae_doubleToLongBits_ccdee) := goodIn_app (goodIn_of _ (by decide +kernel)) ggX13_read_Jxe99ae_doubleToLongBits_ccdee
set_option maxRecDepth 20000 in
theorem gX13_read_Jxf58ca_floatToIntBits_5c35a : GoodIn wsX13_read (va_wsS RX13 282 yJxf58ca_floatToIntBits_5c35a wsJxf58ca_floatToIntBits_5c35a) := goodIn_app (goodIn_of _ (by decide +kernel)) ggX13_read_Jxf58ca_floatToIntBits_5c35a
set_option maxRecDepth 20000 in
theorem gX13_read_X13_in : GoodIn wsX13_read (va_wsS RX13 175 yX13_in wsX13_in) := goodIn_app (goodIn_of _ (by decide +kernel)) ggX13_read_X13_in
set_option maxRecDepth 20000 in
theorem gX13_read_X13_isSheet : GoodIn wsX13_read (va_wsS RX13 332 yX13_isSheet wsX13_isSheet) := goodIn_app (goodIn_of _ (by decide +kernel)) ggX13_read_X13_isSheet
set_option maxRecDepth 20000 in
theorem gX13_read_X13_refused : GoodIn wsX13_read (va_wsS RX13 270 yX13_refused wsX13_refused) := goodIn_app (goodIn_of _ (by decide +kernel)) ggX13_read_X13_refused
set_option maxRecDepth 20000 in
theorem gX13_read_X13_wrong : GoodIn wsX13_read (wsV RX13 410 RX13 yX13_wrong wsX13_wrong) := goodIn_app (goodIn_r _ [17, 18, 19, 8] rfl (by decide +kernel)) ggX13_read_X13_wrong
theorem hs_Jxe99ae_doubleToLongBits_ccdee : yJxe99ae_doubleToLongBits_ccdee.cls ≠ "java/lang/invoke/MethodHandle" ∧ yJxe99ae_doubleToLongBits_ccdee.cls ≠ "java/lang/invoke/VarHandle" ∧ (parseMethodDescriptor yJxe99ae_doubleToLongBits_ccdee.desc).map (fun d => d.parameters.length) = some 1 := by decide +kernel
theorem hs_Jxf58ca_floatToIntBits_5c35a : yJxf58ca_floatToIntBits_5c35a.cls ≠ "java/lang/invoke/MethodHandle" ∧ yJxf58ca_floatToIntBits_5c35a.cls ≠ "java/lang/invoke/VarHandle" ∧ (parseMethodDescriptor yJxf58ca_floatToIntBits_5c35a.desc).map (fun d => d.parameters.length) = some 1 := by decide +kernel
set_option maxRecDepth 20000 in
theorem in_X13_read_X13 : ∀ w ∈ wsX130, w ∈ wsX13_read := sub_r [46, 47, 48, 49, 50, 51, 52, 53, 54, 55, 56, 57, 58, 59, 60, 61, 62, 63, 64, 65, 66, 67, 68, 69, 70, 71, 72, 73, 74, 75, 76, 77, 78, 79, 80, 81, 82, 83, 84, 85, 86, 87, 88, 89, 90] rfl
set_option maxHeartbeats 4000000 in
set_option maxRecDepth 100000 in
theorem c_X13_read (l : Launch) (D : va_G) (T : Nat → ClassId) (sz : Nat) (h0 : Nat) (q : Nat → Int32) (v : Int64) (w : Int64) (a : Nat → Nat) (f34 : Nat → Int32) (f35 : Nat → Int32) (f36 : Nat → Int64) (f37 : Nat → UInt64) (x1 : Int32) (x2 : Int32) (x3 : Int32) (hsz : ∀ k : Nat, k < 4 → 0 ≤ (f35 k).toInt ∧ (f35 k).toInt ≤ 30) : MetD lw_cs l yX13_read wsX13_read ({ frames := 3, cells := 0, slots := 0, locals := 67 }) (pW [.ref h0, .int x1, .int x2, .int x3] D T [(h0, .inr (10, (Value.int (q 0) :: Value.int (q 1) :: Value.int (q 2) :: Value.int (q 3) :: Value.int (q 4) :: Value.int (q 5) :: Value.int (q 6) :: Value.int (q 7) :: Value.ref (a 8) :: Value.ref (a 9) :: Value.ref (a 10) :: Value.ref (a 11) :: Value.ref (a 12) :: Value.ref (a 13) :: Value.int (q 14) :: Value.long v :: Value.long w :: Value.ref (a 17) :: Value.ref (a 18) :: Value.ref (a 19) :: Value.ref (a 20) :: Value.ref (a 21) :: Value.ref (a 22) :: Value.ref (a 23) :: Value.int (q 24) :: Value.ref (a 25) :: Value.int (q 26) :: Value.ref (a 27) :: Value.int (q 28) :: Value.int (q 29) :: Value.int (q 30) :: Value.int (q 31) :: Value.int (q 32) :: Value.int (q 33) :: Value.ref (a 34) :: Value.ref (a 35) :: Value.ref (a 36) :: Value.ref (a 37) :: Value.ref (a 38) :: Value.ref (a 39) :: Value.ref (a 40) :: Value.int (q 41) :: Value.ref (a 42) :: Value.int (q 43) :: Value.int (q 44) :: []))), ((a 34), .inl (T 0, 4, .inl f34)), ((a 35), .inl (T 0, 4, .inl f35)), ((a 36), .inl (T 1, 120, .inr (.inl f36))), ((a 37), .inl (T 3, 120, .inr (.inr (.inr (.inl f37)))))] sz) (va_Ql (fun (r : Int64) (u : Unit) => True) (bW D (va_A [(h0, .inr (10, (Value.int (q 0) :: Value.int (q 1) :: Value.int (q 2) :: Value.int (q 3) :: Value.int (q 4) :: Value.int (q 5) :: Value.int (q 6) :: Value.int (q 7) :: Value.ref (a 8) :: Value.ref (a 9) :: Value.ref (a 10) :: Value.ref (a 11) :: Value.ref (a 12) :: Value.ref (a 13) :: Value.int (q 14) :: Value.long v :: Value.long w :: Value.ref (a 17) :: Value.ref (a 18) :: Value.ref (a 19) :: Value.ref (a 20) :: Value.ref (a 21) :: Value.ref (a 22) :: Value.ref (a 23) :: Value.int (q 24) :: Value.ref (a 25) :: Value.int (q 26) :: Value.ref (a 27) :: Value.int (q 28) :: Value.int (q 29) :: Value.int (q 30) :: Value.int (q 31) :: Value.int (q 32) :: Value.int (q 33) :: Value.ref (a 34) :: Value.ref (a 35) :: Value.ref (a 36) :: Value.ref (a 37) :: Value.ref (a 38) :: Value.ref (a 39) :: Value.ref (a 40) :: Value.int (q 41) :: Value.ref (a 42) :: Value.int (q 43) :: Value.int (q 44) :: []))), ((a 34), .inl (T 0, 4, .inl f34)), ((a 35), .inl (T 0, 4, .inl f35)), ((a 36), .inl (T 1, 120, .inr (.inl f36))), ((a 37), .inl (T 3, 120, .inr (.inr (.inr (.inl f37)))))] sz) (fun (u : Unit) => [(h0, .inr (10, (Value.int (q 0) :: Value.int (q 1) :: Value.int (q 2) :: Value.int (q 3) :: Value.int (q 4) :: Value.int (q 5) :: Value.int (q 6) :: Value.int (q 7) :: Value.ref (a 8) :: Value.ref (a 9) :: Value.ref (a 10) :: Value.ref (a 11) :: Value.ref (a 12) :: Value.ref (a 13) :: Value.int (q 14) :: Value.long v :: Value.long w :: Value.ref (a 17) :: Value.ref (a 18) :: Value.ref (a 19) :: Value.ref (a 20) :: Value.ref (a 21) :: Value.ref (a 22) :: Value.ref (a 23) :: Value.int (q 24) :: Value.ref (a 25) :: Value.int (q 26) :: Value.ref (a 27) :: Value.int (q 28) :: Value.int (q 29) :: Value.int (q 30) :: Value.int (q 31) :: Value.int (q 32) :: Value.int (q 33) :: Value.ref (a 34) :: Value.ref (a 35) :: Value.ref (a 36) :: Value.ref (a 37) :: Value.ref (a 38) :: Value.ref (a 39) :: Value.ref (a 40) :: Value.int (q 41) :: Value.ref (a 42) :: Value.int (q 43) :: Value.int (q 44) :: []))), ((a 34), .inl (T 0, 4, .inl f34)), ((a 35), .inl (T 0, 4, .inl f35)), ((a 36), .inl (T 1, 120, .inr (.inl f36))), ((a 37), .inl (T 3, 120, .inr (.inr (.inr (.inl f37)))))])) (va_A [(h0, .inr (10, (Value.int (q 0) :: Value.int (q 1) :: Value.int (q 2) :: Value.int (q 3) :: Value.int (q 4) :: Value.int (q 5) :: Value.int (q 6) :: Value.int (q 7) :: Value.ref (a 8) :: Value.ref (a 9) :: Value.ref (a 10) :: Value.ref (a 11) :: Value.ref (a 12) :: Value.ref (a 13) :: Value.int (q 14) :: Value.long v :: Value.long w :: Value.ref (a 17) :: Value.ref (a 18) :: Value.ref (a 19) :: Value.ref (a 20) :: Value.ref (a 21) :: Value.ref (a 22) :: Value.ref (a 23) :: Value.int (q 24) :: Value.ref (a 25) :: Value.int (q 26) :: Value.ref (a 27) :: Value.int (q 28) :: Value.int (q 29) :: Value.int (q 30) :: Value.int (q 31) :: Value.int (q 32) :: Value.int (q 33) :: Value.ref (a 34) :: Value.ref (a 35) :: Value.ref (a 36) :: Value.ref (a 37) :: Value.ref (a 38) :: Value.ref (a 39) :: Value.ref (a 40) :: Value.int (q 41) :: Value.ref (a 42) :: Value.int (q 43) :: Value.int (q 44) :: []))), ((a 34), .inl (T 0, 4, .inl f34)), ((a 35), .inl (T 0, 4, .inl f35)), ((a 36), .inl (T 1, 120, .inr (.inl f36))), ((a 37), .inl (T 3, 120, .inr (.inr (.inr (.inl f37)))))] sz)) 0 0 (va_A [(h0, .inr (10, (Value.int (q 0) :: Value.int (q 1) :: Value.int (q 2) :: Value.int (q 3) :: Value.int (q 4) :: Value.int (q 5) :: Value.int (q 6) :: Value.int (q 7) :: Value.ref (a 8) :: Value.ref (a 9) :: Value.ref (a 10) :: Value.ref (a 11) :: Value.ref (a 12) :: Value.ref (a 13) :: Value.int (q 14) :: Value.long v :: Value.long w :: Value.ref (a 17) :: Value.ref (a 18) :: Value.ref (a 19) :: Value.ref (a 20) :: Value.ref (a 21) :: Value.ref (a 22) :: Value.ref (a 23) :: Value.int (q 24) :: Value.ref (a 25) :: Value.int (q 26) :: Value.ref (a 27) :: Value.int (q 28) :: Value.int (q 29) :: Value.int (q 30) :: Value.int (q 31) :: Value.int (q 32) :: Value.int (q 33) :: Value.ref (a 34) :: Value.ref (a 35) :: Value.ref (a 36) :: Value.ref (a 37) :: Value.ref (a 38) :: Value.ref (a 39) :: Value.ref (a 40) :: Value.int (q 41) :: Value.ref (a 42) :: Value.int (q 43) :: Value.int (q 44) :: []))), ((a 34), .inl (T 0, 4, .inl f34)), ((a 35), .inl (T 0, 4, .inl f35)), ((a 36), .inl (T 1, 120, .inr (.inl f36))), ((a 37), .inl (T 3, 120, .inr (.inr (.inr (.inl f37)))))] sz) := by
  refine MetD.ofW (cc := cX13_read) (maxL := 10) (ret := (some .long)) (by decide +kernel) rfl ?_
  intro p e s m args below meth c s₁ B hml hv hd0
  obtain ⟨rfl, hsz, hP, hE0, hD0⟩ := hv
  have hx := B.exec
  have hb := B.bytes
  have hr := B.returns
  have hts0 := atoms_spec (ws := wsX13_read) B.pre
  have hown0 : s.vm.findClass RX13 = some m.cls := findClass_of_methodNamed B.named
  have hlocks := B.notSynchronized
  subst hsz
  have hD := hD0.self (sz := s.heap.size)
  generalize hAe : va_A [(h0, .inr (10, (Value.int (q 0) :: Value.int (q 1) :: Value.int (q 2) :: Value.int (q 3) :: Value.int (q 4) :: Value.int (q 5) :: Value.int (q 6) :: Value.int (q 7) :: Value.ref (a 8) :: Value.ref (a 9) :: Value.ref (a 10) :: Value.ref (a 11) :: Value.ref (a 12) :: Value.ref (a 13) :: Value.int (q 14) :: Value.long v :: Value.long w :: Value.ref (a 17) :: Value.ref (a 18) :: Value.ref (a 19) :: Value.ref (a 20) :: Value.ref (a 21) :: Value.ref (a 22) :: Value.ref (a 23) :: Value.int (q 24) :: Value.ref (a 25) :: Value.int (q 26) :: Value.ref (a 27) :: Value.int (q 28) :: Value.int (q 29) :: Value.int (q 30) :: Value.int (q 31) :: Value.int (q 32) :: Value.int (q 33) :: Value.ref (a 34) :: Value.ref (a 35) :: Value.ref (a 36) :: Value.ref (a 37) :: Value.ref (a 38) :: Value.ref (a 39) :: Value.ref (a 40) :: Value.int (q 41) :: Value.ref (a 42) :: Value.int (q 43) :: Value.int (q 44) :: []))), ((a 34), .inl (T 0, 4, .inl f34)), ((a 35), .inl (T 0, 4, .inl f35)), ((a 36), .inl (T 1, 120, .inr (.inl f36))), ((a 37), .inl (T 3, 120, .inr (.inr (.inr (.inl f37)))))] s.heap.size = A at hD ⊢
  have hA : ∀ q : Nat, s.heap.size ≤ q → A q := fun q h => by rw [← hAe]; exact Or.inr h
  have hS : va_S A s.heap s.heap [] := va_S.rf
  have hP : va_P D vwCl [(h0, .inr (10, (Value.int (q 0) :: Value.int (q 1) :: Value.int (q 2) :: Value.int (q 3) :: Value.int (q 4) :: Value.int (q 5) :: Value.int (q 6) :: Value.int (q 7) :: Value.ref (a 8) :: Value.ref (a 9) :: Value.ref (a 10) :: Value.ref (a 11) :: Value.ref (a 12) :: Value.ref (a 13) :: Value.int (q 14) :: Value.long v :: Value.long w :: Value.ref (a 17) :: Value.ref (a 18) :: Value.ref (a 19) :: Value.ref (a 20) :: Value.ref (a 21) :: Value.ref (a 22) :: Value.ref (a 23) :: Value.int (q 24) :: Value.ref (a 25) :: Value.int (q 26) :: Value.ref (a 27) :: Value.int (q 28) :: Value.int (q 29) :: Value.int (q 30) :: Value.int (q 31) :: Value.int (q 32) :: Value.int (q 33) :: Value.ref (a 34) :: Value.ref (a 35) :: Value.ref (a 36) :: Value.ref (a 37) :: Value.ref (a 38) :: Value.ref (a 39) :: Value.ref (a 40) :: Value.int (q 41) :: Value.ref (a 42) :: Value.int (q 43) :: Value.int (q 44) :: []))), ((a 34), .inl (T 0, 4, .inl f34)), ((a 35), .inl (T 0, 4, .inl f35)), ((a 36), .inl (T 1, 120, .inr (.inl f36))), ((a 37), .inl (T 3, 120, .inr (.inr (.inr (.inl f37)))))] s.heap := hP
  have hl := lv_entry ([.ref h0, .int x1, .int x2, .int x3]) (n := 10) (Nat.le_of_ble_eq_true rfl)
  rw [lg_entry_eq]
  generalize (lg_sl ([.ref h0, .int x1, .int x2, .int x3]) ++ List.replicate (10 - (lg_sl ([.ref h0, .int x1, .int x2, .int x3])).length) Slot.unset).toArray = ls at hl ⊢
  have hl : lv_has ls 10 [(0, .ref h0), (1, .int x1), (2, .int x2), (3, .int x3)] := hl
  clear hD0
  have hts := dr_words hts0 s.drawn
  have hE : ekK D T (s.setDrawn s.drawn) := ekK.same (u := s) rfl hE0
  have hown : (s.setDrawn s.drawn).vm.findClass RX13 = some m.cls := hown0
  refine lv_iload_n hx hb dX13_read_0 rfl (lv_at hl 1 rfl) ?_
  refine vp_callSi (W.runS (As := [.int x1]) (rest := []) ⟨hx, hb, hml, hown, hts⟩ (c_X13_isSheet l D T x1) (va_cwS 1 hts gX13_read_X13_isSheet rfl rfl rfl hs_X13_isSheet ⟨Nat.le_of_ble_eq_true rfl, Nat.le_of_ble_eq_true rfl⟩) (pR_S hP hE [] rfl) rfl rfl hl.1 rfl (lv_room (Nat.le_of_ble_eq_true rfl)) dX13_read_1 ⟨Nat.le_of_ble_eq_true rfl, Nat.le_of_ble_eq_true rfl⟩) (fun r_1 hr_1 => ?_)
  rcases bool_post hr_1 with ⟨c_2, rfl⟩ | ⟨c_2, rfl⟩
  · refine lv_if_eq (tgt := 19) hx hb dX13_read_4 (by decide +kernel) (fun c9 => absurd c9 (by decide +kernel)) (fun _ => ?_)
    refine lv_iload_n hx hb dX13_read_7 rfl (lv_at hl 3 rfl) ?_
    refine lv_i2l hx hb dX13_read_8 rfl ?_
    refine lv_lconst (v := 0) hx hb dX13_read_9 (by decide +kernel) ?_
    refine lv_ldc2 (v := 3) hx hb hown (hts (.constantLong RX13 408 (3)) (List.mem_of_getElem? (i := 1) rfl)) dX13_read_10 ?_
    refine vp_callSi (W.runS (As := [.long (x3.toInt64), .long 0, .long 3]) (rest := []) ⟨hx, hb, hml, hown, hts⟩ (c_X13_in l D T (x3.toInt64) 0 3 x3.toInt 0 3 ((Int32.toInt_toInt64 _).trans rfl) (by decide +kernel) (by decide +kernel)) (va_cwS 3 hts gX13_read_X13_in rfl rfl rfl hs_X13_in ⟨Nat.le_of_ble_eq_true rfl, Nat.le_of_ble_eq_true rfl⟩) (pR_S hP hE [] rfl) rfl rfl hl.1 rfl (lv_room (Nat.le_of_ble_eq_true rfl)) dX13_read_13 ⟨Nat.le_of_ble_eq_true rfl, Nat.le_of_ble_eq_true rfl⟩) (fun r_3 hr_3 => ?_)
    rcases bool_post hr_3 with ⟨c_4, rfl⟩ | ⟨c_4, rfl⟩
    · refine lv_if_ne (tgt := 25) hx hb dX13_read_16 (by decide +kernel) (fun _ => ?_) (fun c9 => absurd c9 (by decide +kernel))
      refine lv_aload_n hx hb dX13_read_25 rfl (lv_at hl 0 rfl) ?_
      refine lv_iload_n hx hb dX13_read_26 rfl (lv_at hl 1 rfl) ?_
      refine lv_iload_n hx hb dX13_read_27 rfl (lv_at hl 2 rfl) ?_
      refine vp_callSi (W.runV (As := [.int x1, .int x2]) (rest := []) ⟨hx, hb, hml, hown, hts⟩ (c_X13_wrong l D T h0 [.int (q 0), .int (q 1), .int (q 2), .int (q 3), .int (q 4), .int (q 5), .int (q 6), .int (q 7), .ref (a 8), .ref (a 9), .ref (a 10), .ref (a 11), .ref (a 12), .ref (a 13), .int (q 14), .long v, .long w, .ref (a 17), .ref (a 18), .ref (a 19), .ref (a 20), .ref (a 21), .ref (a 22), .ref (a 23), .int (q 24), .ref (a 25), .int (q 26), .ref (a 27), .int (q 28), .int (q 29), .int (q 30), .int (q 31), .int (q 32), .int (q 33), .ref (a 34), .ref (a 35), .ref (a 36), .ref (a 37), .ref (a 38), .ref (a 39), .ref (a 40), .int (q 41), .ref (a 42), .int (q 43), .int (q 44)] (a 34) f34 (a 35) f35 x1 x2 rfl rfl hsz) (cwV 2 hts gX13_read_X13_wrong rfl rfl rfl hv_X13_wrong ⟨Nat.le_of_ble_eq_true rfl, Nat.le_of_ble_eq_true rfl⟩) (pR_V (q := (RX13, TX13, 45)) (ci := 10) (q0 := 0) hP hE rfl rfl [0, 1, 2] rfl) rfl rfl hl.1 rfl (lv_room (Nat.le_of_ble_eq_true rfl)) dX13_read_28 ⟨Nat.le_of_ble_eq_true rfl, Nat.le_of_ble_eq_true rfl⟩) (fun r_5 hr_5 => ?_)
      refine lv_istore (lv' := [(4, .int r_5), (0, .ref h0), (1, .int x1), (2, .int x2), (3, .int x3)]) hx hb dX13_read_31 hl (by decide +kernel) rfl (fun ls hl => ?_)
      refine lv_iload hx hb dX13_read_33 (lv_at hl 0 rfl) ?_
      refine lv_if_eq (tgt := 44) hx hb dX13_read_35 (by decide +kernel) (fun c_6 => ?_) (fun c_6 => ?_)
      · rw [fa_eq] at c_6
        try rw [ti_0] at c_6
        have hwr := hr_5.1 (by omega)
        have h30 : (30 * x1).toInt = 30 * x1.toInt := by rw [fb_mulI (by rw [ti_30]; omega) (by rw [ti_30]; omega), ti_30]
        refine lv_aload_n hx hb dX13_read_44 rfl (lv_at hl 1 rfl) ?_
        refine va_get (D := D) (ci := 10) (v := .ref (a 36)) (C := RX13) (T := TX13) (N := 45) hx hb hts in_X13_read_X13 hown hE.1 hP 0 rfl rfl 36 (by decide +kernel) (hts (.fieldLink RX13 110 "ClauseBookModel" "whole" "[J") (List.mem_of_getElem? (i := 2) rfl)) (fun _ h9 => h9) rfl dX13_read_45 ?_
        refine lv_bipush (v := 30) hx hb dX13_read_48 (by decide +kernel) ?_
        refine lv_iload_n hx hb dX13_read_50 rfl (lv_at hl 2 rfl) ?_
        refine lv_imul hx hb dX13_read_51 ?_
        refine lv_iload_n hx hb dX13_read_52 rfl (lv_at hl 3 rfl) ?_
        refine lv_iadd hx hb dX13_read_53 ?_
        refine va_lald hx hb hE.1 hP 3 1 rfl rfl (by rw [vp_in_iff]; first | omega | (rw [fb_addI (by omega) (by omega)]; omega)) dX13_read_54 ?_
        refine lv_topl (fun z_7 ez_7 => ?_)
        refine lv_lstore (lv' := [(5, .long z_7), (4, .int r_5), (0, .ref h0), (1, .int x1), (2, .int x2), (3, .int x3)]) hx hb dX13_read_55 hl (by decide +kernel) rfl (fun ls hl => ?_)
        refine lv_aload_n hx hb dX13_read_57 rfl (lv_at hl 2 rfl) ?_
        refine va_get (D := D) (ci := 10) (v := .ref (a 37)) (C := RX13) (T := TX13) (N := 45) hx hb hts in_X13_read_X13 hown hE.1 hP 0 rfl rfl 37 (by decide +kernel) (hts (.fieldLink RX13 113 "ClauseBookModel" "host" "[D") (List.mem_of_getElem? (i := 3) rfl)) (fun _ h9 => h9) rfl dX13_read_58 ?_
        refine lv_bipush (v := 30) hx hb dX13_read_61 (by decide +kernel) ?_
        refine lv_iload_n hx hb dX13_read_63 rfl (lv_at hl 3 rfl) ?_
        refine lv_imul hx hb dX13_read_64 ?_
        refine lv_iload_n hx hb dX13_read_65 rfl (lv_at hl 4 rfl) ?_
        refine lv_iadd hx hb dX13_read_66 ?_
        refine va_dald hx hb hE.1 hP 4 3 rfl rfl (by rw [vp_in_iff]; first | omega | (rw [fb_addI (by omega) (by omega)]; omega)) dX13_read_67 ?_
        obtain ⟨z_8, ez_8⟩ : ∃ y : UInt64, y = (f37 ((30 * x1) + x2).toNatClampNeg) := ⟨_, rfl⟩
        refine W.eq (g2 := F0 m 68 ls [.double z_8]) (by rw [ez_8]) ?_
        clear ez_8
        refine lv_dstore (lv' := [(7, .double z_8), (5, .long z_7), (4, .int r_5), (0, .ref h0), (1, .int x1), (2, .int x2), (3, .int x3)]) hx hb dX13_read_68 hl (by decide +kernel) rfl (fun ls hl => ?_)
        refine lv_aload_n hx hb dX13_read_70 rfl (lv_at hl 3 rfl) ?_
        refine va_get (D := D) (ci := 10) (v := .ref (a 34)) (C := RX13) (T := TX13) (N := 45) hx hb hts in_X13_read_X13 hown hE.1 hP 0 rfl rfl 34 (by decide +kernel) (hts (.fieldLink RX13 104 "ClauseBookModel" "sorts" "[I") (List.mem_of_getElem? (i := 4) rfl)) (fun _ h9 => h9) rfl dX13_read_71 ?_
        refine lv_iload_n hx hb dX13_read_74 rfl (lv_at hl 4 rfl) ?_
        refine va_iald hx hb hE.1 hP 1 0 rfl rfl (by rw [vp_in_iff]; first | omega | (rw [fb_addI (by omega) (by omega)]; omega)) dX13_read_75 ?_
        refine lv_topi (fun z_9 ez_9 => ?_)
        refine lv_iconst (v := 2) hx hb dX13_read_76 (by decide +kernel) ?_
        refine lv_icmp_ge (tgt := 84) hx hb dX13_read_77 (by decide +kernel) (fun c_10 => ?_) (fun c_10 => ?_)
        · rw [fa_le] at c_10
          try rw [ti_2] at c_10
          refine lv_iconst (v := 0) hx hb dX13_read_84 (by decide +kernel) ?_
          refine lv_istore (lv' := [(9, .int 0), (7, .double z_8), (5, .long z_7), (4, .int r_5), (0, .ref h0), (1, .int x1), (2, .int x2), (3, .int x3)]) hx hb dX13_read_85 hl (by decide +kernel) rfl (fun ls hl => ?_)
          refine lv_iload_n hx hb dX13_read_87 rfl (lv_at hl 7 rfl) ?_
          by_cases k_11 : x3 = 0
          · subst k_11
            refine lv_tableIn (off := 28) (tgt := 116) hx hb dX13_read_88 (by decide +kernel) (by decide +kernel) (by decide +kernel) (by decide +kernel) ?_
            refine lv_iload hx hb dX13_read_116 (lv_at hl 0 rfl) ?_
            refine lv_if_eq (tgt := 126) hx hb dX13_read_118 (by decide +kernel) (fun _ => ?_) (fun c9 => absurd c9 (by decide +kernel))
            refine lv_aload_n hx hb dX13_read_126 rfl (lv_at hl 4 rfl) ?_
            refine va_get (D := D) (ci := 10) (v := .ref (a 34)) (C := RX13) (T := TX13) (N := 45) hx hb hts in_X13_read_X13 hown hE.1 hP 0 rfl rfl 34 (by decide +kernel) (hts (.fieldLink RX13 104 "ClauseBookModel" "sorts" "[I") (List.mem_of_getElem? (i := 4) rfl)) (fun _ h9 => h9) rfl dX13_read_127 ?_
            refine lv_iload_n hx hb dX13_read_130 rfl (lv_at hl 5 rfl) ?_
            refine va_iald hx hb hE.1 hP 1 0 rfl rfl (by rw [vp_in_iff]; first | omega | (rw [fb_addI (by omega) (by omega)]; omega)) dX13_read_131 ?_
            refine lv_topi (fun z_12 ez_12 => ?_)
            refine lv_iconst (v := 2) hx hb dX13_read_132 (by decide +kernel) ?_
            refine lv_icmp_ne (tgt := 146) hx hb dX13_read_133 (by decide +kernel) (fun c_13 => ?_) (fun c_13 => ?_)
            · rw [fa_eq] at c_13
              try rw [ti_2] at c_13
              refine lv_dload hx hb dX13_read_146 (lv_at hl 1 rfl) ?_
              refine vp_callSl (W.runS (As := [.double z_8]) (rest := []) ⟨hx, hb, hml, hown, hts⟩ (c_Jxe99ae_doubleToLongBits_ccdee l D T z_8) (va_cwS 1 hts gX13_read_Jxe99ae_doubleToLongBits_ccdee rfl rfl rfl hs_Jxe99ae_doubleToLongBits_ccdee ⟨Nat.le_of_ble_eq_true rfl, Nat.le_of_ble_eq_true rfl⟩) (pR_S hP hE [] rfl) rfl rfl hl.1 rfl (lv_room (Nat.le_of_ble_eq_true rfl)) dX13_read_148 ⟨Nat.le_of_ble_eq_true rfl, Nat.le_of_ble_eq_true rfl⟩) (fun r_14 hr_14 => ?_)
              refine W.endD hd0 ?_
              exact W.lret hx hb hr (fun t ht hW => ⟨⟨_, (), rfl, trivial, by rw [ht]; exact hP.sub [0, 1, 2, 3, 4] rfl, hD.sub [0, 1, 2, 3, 4] (by decide +kernel) rfl⟩, hS.F ht⟩) hS.2.2 dX13_read_151
            · rw [fa_eq] at c_13
              try rw [ti_2] at c_13
              refine lv_dload hx hb dX13_read_136 (lv_at hl 1 rfl) ?_
              refine lv_d2f_any hd0 lw_bits hx hb dX13_read_138 (fun r_15 d_16 _ hd_16 => ?_)
              have hts := dr_words hts0 d_16
              have hE : ekK D T (s.setDrawn d_16) := ekK.same (u := s) rfl hE0
              have hown : (s.setDrawn d_16).vm.findClass RX13 = some m.cls := hown0
              refine vp_callSi (W.runS (As := [.float r_15]) (rest := []) ⟨hx, hb, hml, hown, hts⟩ (c_Jxf58ca_floatToIntBits_5c35a l D T r_15) (va_cwS 1 hts gX13_read_Jxf58ca_floatToIntBits_5c35a rfl rfl rfl hs_Jxf58ca_floatToIntBits_5c35a ⟨Nat.le_of_ble_eq_true rfl, Nat.le_of_ble_eq_true rfl⟩) (pR_S hP hE [] rfl) rfl rfl hl.1 rfl (lv_room (Nat.le_of_ble_eq_true rfl)) dX13_read_139 ⟨Nat.le_of_ble_eq_true rfl, Nat.le_of_ble_eq_true rfl⟩) (fun r_17 hr_17 => ?_)
              refine lv_i2l hx hb dX13_read_142 rfl ?_
              refine lv_goto (tgt := 151) hx hb dX13_read_143 (by decide +kernel) ?_
              refine W.endD hd_16 ?_
              exact W.lret hx hb hr (fun t ht hW => ⟨⟨_, (), rfl, trivial, by rw [ht]; exact hP.sub [0, 1, 2, 3, 4] rfl, hD.sub [0, 1, 2, 3, 4] (by decide +kernel) rfl⟩, hS.F ht⟩) hS.2.2 dX13_read_151
          by_cases k_18 : x3 = 1
          · subst k_18
            refine lv_tableIn (off := 64) (tgt := 152) hx hb dX13_read_88 (by decide +kernel) (by decide +kernel) (by decide +kernel) (by decide +kernel) ?_
            refine lv_iload hx hb dX13_read_152 (lv_at hl 0 rfl) ?_
            refine lv_if_eq (tgt := 164) hx hb dX13_read_154 (by decide +kernel) (fun _ => ?_) (fun c9 => absurd c9 (by decide +kernel))
            refine lv_dload hx hb dX13_read_164 (lv_at hl 1 rfl) ?_
            refine lv_d2i hx hb dX13_read_166 ?_
            refine lv_topi (fun z_19 ez_19 => ?_)
            refine lv_i2l hx hb dX13_read_167 rfl ?_
            refine W.endD hd0 ?_
            exact W.lret hx hb hr (fun t ht hW => ⟨⟨_, (), rfl, trivial, by rw [ht]; exact hP.sub [0, 1, 2, 3, 4] rfl, hD.sub [0, 1, 2, 3, 4] (by decide +kernel) rfl⟩, hS.F ht⟩) hS.2.2 dX13_read_168
          by_cases k_20 : x3 = 2
          · subst k_20
            refine lv_tableIn (off := 81) (tgt := 169) hx hb dX13_read_88 (by decide +kernel) (by decide +kernel) (by decide +kernel) (by decide +kernel) ?_
            refine lv_iload hx hb dX13_read_169 (lv_at hl 0 rfl) ?_
            refine lv_if_eq (tgt := 179) hx hb dX13_read_171 (by decide +kernel) (fun _ => ?_) (fun c9 => absurd c9 (by decide +kernel))
            refine lv_dload hx hb dX13_read_179 (lv_at hl 1 rfl) ?_
            refine lv_d2l hx hb dX13_read_181 ?_
            refine lv_topl (fun z_21 ez_21 => ?_)
            refine W.endD hd0 ?_
            exact W.lret hx hb hr (fun t ht hW => ⟨⟨_, (), rfl, trivial, by rw [ht]; exact hP.sub [0, 1, 2, 3, 4] rfl, hD.sub [0, 1, 2, 3, 4] (by decide +kernel) rfl⟩, hS.F ht⟩) hS.2.2 dX13_read_182
          rw [fa_eq] at k_11 k_18 k_20
          try simp only [ti_0, ti_1, ti_2] at k_11 k_18 k_20
          refine lv_tableOut (tgt := 183) hx hb dX13_read_88 (by omega) (by decide +kernel) ?_
          refine lv_iload hx hb dX13_read_183 (lv_at hl 0 rfl) ?_
          refine lv_if_eq (tgt := 194) hx hb dX13_read_185 (by decide +kernel) (fun _ => ?_) (fun c9 => absurd c9 (by decide +kernel))
          refine lv_dload hx hb dX13_read_194 (lv_at hl 1 rfl) ?_
          refine lv_ldc2d (v := 4619567317775286272) hx hb hown (hts (.constantDouble RX13 413 (4619567317775286272)) (List.mem_of_getElem? (i := 5) rfl)) dX13_read_196 ?_
          refine lv_drem_any hd0 lw_bits hx hb dX13_read_199 (fun r_22 d_23 _ hd_23 => ?_)
          have hts := dr_words hts0 d_23
          have hE : ekK D T (s.setDrawn d_23) := ekK.same (u := s) rfl hE0
          have hown : (s.setDrawn d_23).vm.findClass RX13 = some m.cls := hown0
          refine vp_callSl (W.runS (As := [.double r_22]) (rest := []) ⟨hx, hb, hml, hown, hts⟩ (c_Jxe99ae_doubleToLongBits_ccdee l D T r_22) (va_cwS 1 hts gX13_read_Jxe99ae_doubleToLongBits_ccdee rfl rfl rfl hs_Jxe99ae_doubleToLongBits_ccdee ⟨Nat.le_of_ble_eq_true rfl, Nat.le_of_ble_eq_true rfl⟩) (pR_S hP hE [] rfl) rfl rfl hl.1 rfl (lv_room (Nat.le_of_ble_eq_true rfl)) dX13_read_200 ⟨Nat.le_of_ble_eq_true rfl, Nat.le_of_ble_eq_true rfl⟩) (fun r_24 hr_24 => ?_)
          refine W.endD hd_23 ?_
          exact W.lret hx hb hr (fun t ht hW => ⟨⟨_, (), rfl, trivial, by rw [ht]; exact hP.sub [0, 1, 2, 3, 4] rfl, hD.sub [0, 1, 2, 3, 4] (by decide +kernel) rfl⟩, hS.F ht⟩) hS.2.2 dX13_read_203
        · rw [fa_le] at c_10
          try rw [ti_2] at c_10
          refine lv_iconst (v := 1) hx hb dX13_read_80 (by decide +kernel) ?_
          refine lv_goto (tgt := 85) hx hb dX13_read_81 (by decide +kernel) ?_
          refine lv_istore (lv' := [(9, .int 1), (7, .double z_8), (5, .long z_7), (4, .int r_5), (0, .ref h0), (1, .int x1), (2, .int x2), (3, .int x3)]) hx hb dX13_read_85 hl (by decide +kernel) rfl (fun ls hl => ?_)
          refine lv_iload_n hx hb dX13_read_87 rfl (lv_at hl 7 rfl) ?_
          by_cases k_25 : x3 = 0
          · subst k_25
            refine lv_tableIn (off := 28) (tgt := 116) hx hb dX13_read_88 (by decide +kernel) (by decide +kernel) (by decide +kernel) (by decide +kernel) ?_
            refine lv_iload hx hb dX13_read_116 (lv_at hl 0 rfl) ?_
            refine lv_if_eq (tgt := 126) hx hb dX13_read_118 (by decide +kernel) (fun c9 => absurd c9 (by decide +kernel)) (fun _ => ?_)
            refine lv_lload hx hb dX13_read_121 (lv_at hl 2 rfl) ?_
            refine lv_goto (tgt := 151) hx hb dX13_read_123 (by decide +kernel) ?_
            refine W.endD hd0 ?_
            exact W.lret hx hb hr (fun t ht hW => ⟨⟨_, (), rfl, trivial, by rw [ht]; exact hP.sub [0, 1, 2, 3, 4] rfl, hD.sub [0, 1, 2, 3, 4] (by decide +kernel) rfl⟩, hS.F ht⟩) hS.2.2 dX13_read_151
          by_cases k_26 : x3 = 1
          · subst k_26
            refine lv_tableIn (off := 64) (tgt := 152) hx hb dX13_read_88 (by decide +kernel) (by decide +kernel) (by decide +kernel) (by decide +kernel) ?_
            refine lv_iload hx hb dX13_read_152 (lv_at hl 0 rfl) ?_
            refine lv_if_eq (tgt := 164) hx hb dX13_read_154 (by decide +kernel) (fun c9 => absurd c9 (by decide +kernel)) (fun _ => ?_)
            refine lv_lload hx hb dX13_read_157 (lv_at hl 2 rfl) ?_
            refine lv_l2i hx hb dX13_read_159 rfl ?_
            refine lv_i2l hx hb dX13_read_160 rfl ?_
            refine lv_goto (tgt := 168) hx hb dX13_read_161 (by decide +kernel) ?_
            refine W.endD hd0 ?_
            exact W.lret hx hb hr (fun t ht hW => ⟨⟨_, (), rfl, trivial, by rw [ht]; exact hP.sub [0, 1, 2, 3, 4] rfl, hD.sub [0, 1, 2, 3, 4] (by decide +kernel) rfl⟩, hS.F ht⟩) hS.2.2 dX13_read_168
          by_cases k_27 : x3 = 2
          · subst k_27
            refine lv_tableIn (off := 81) (tgt := 169) hx hb dX13_read_88 (by decide +kernel) (by decide +kernel) (by decide +kernel) (by decide +kernel) ?_
            refine lv_iload hx hb dX13_read_169 (lv_at hl 0 rfl) ?_
            refine lv_if_eq (tgt := 179) hx hb dX13_read_171 (by decide +kernel) (fun c9 => absurd c9 (by decide +kernel)) (fun _ => ?_)
            refine lv_lload hx hb dX13_read_174 (lv_at hl 2 rfl) ?_
            refine lv_goto (tgt := 182) hx hb dX13_read_176 (by decide +kernel) ?_
            refine W.endD hd0 ?_
            exact W.lret hx hb hr (fun t ht hW => ⟨⟨_, (), rfl, trivial, by rw [ht]; exact hP.sub [0, 1, 2, 3, 4] rfl, hD.sub [0, 1, 2, 3, 4] (by decide +kernel) rfl⟩, hS.F ht⟩) hS.2.2 dX13_read_182
          rw [fa_eq] at k_25 k_26 k_27
          try simp only [ti_0, ti_1, ti_2] at k_25 k_26 k_27
          refine lv_tableOut (tgt := 183) hx hb dX13_read_88 (by omega) (by decide +kernel) ?_
          refine lv_iload hx hb dX13_read_183 (lv_at hl 0 rfl) ?_
          refine lv_if_eq (tgt := 194) hx hb dX13_read_185 (by decide +kernel) (fun c9 => absurd c9 (by decide +kernel)) (fun _ => ?_)
          refine lv_lload hx hb dX13_read_188 (lv_at hl 2 rfl) ?_
          refine lv_l2d hx hb dX13_read_190 ?_
          refine lv_goto (tgt := 196) hx hb dX13_read_191 (by decide +kernel) ?_
          refine lv_ldc2d (v := 4619567317775286272) hx hb hown (hts (.constantDouble RX13 413 (4619567317775286272)) (List.mem_of_getElem? (i := 5) rfl)) dX13_read_196 ?_
          refine lv_drem_any hd0 lw_bits hx hb dX13_read_199 (fun r_28 d_29 _ hd_29 => ?_)
          have hts := dr_words hts0 d_29
          have hE : ekK D T (s.setDrawn d_29) := ekK.same (u := s) rfl hE0
          have hown : (s.setDrawn d_29).vm.findClass RX13 = some m.cls := hown0
          refine vp_callSl (W.runS (As := [.double r_28]) (rest := []) ⟨hx, hb, hml, hown, hts⟩ (c_Jxe99ae_doubleToLongBits_ccdee l D T r_28) (va_cwS 1 hts gX13_read_Jxe99ae_doubleToLongBits_ccdee rfl rfl rfl hs_Jxe99ae_doubleToLongBits_ccdee ⟨Nat.le_of_ble_eq_true rfl, Nat.le_of_ble_eq_true rfl⟩) (pR_S hP hE [] rfl) rfl rfl hl.1 rfl (lv_room (Nat.le_of_ble_eq_true rfl)) dX13_read_200 ⟨Nat.le_of_ble_eq_true rfl, Nat.le_of_ble_eq_true rfl⟩) (fun r_30 hr_30 => ?_)
          refine W.endD hd_29 ?_
          exact W.lret hx hb hr (fun t ht hW => ⟨⟨_, (), rfl, trivial, by rw [ht]; exact hP.sub [0, 1, 2, 3, 4] rfl, hD.sub [0, 1, 2, 3, 4] (by decide +kernel) rfl⟩, hS.F ht⟩) hS.2.2 dX13_read_203
      · rw [fa_eq] at c_6
        try rw [ti_0] at c_6
        refine lv_iload hx hb dX13_read_38 (lv_at hl 0 rfl) ?_
        refine vp_callSl (W.runS (As := [.int r_5]) (rest := []) ⟨hx, hb, hml, hown, hts⟩ (c_X13_refused l D T r_5 (by omega)) (va_cwS 1 hts gX13_read_X13_refused rfl rfl rfl hs_X13_refused ⟨Nat.le_of_ble_eq_true rfl, Nat.le_of_ble_eq_true rfl⟩) (pR_S hP hE [] rfl) rfl rfl hl.1 rfl (lv_room (Nat.le_of_ble_eq_true rfl)) dX13_read_40 ⟨Nat.le_of_ble_eq_true rfl, Nat.le_of_ble_eq_true rfl⟩) (fun r_31 hr_31 => ?_)
        refine W.endD hd0 ?_
        exact W.lret hx hb hr (fun t ht hW => ⟨⟨_, (), rfl, trivial, by rw [ht]; exact hP.sub [0, 1, 2, 3, 4] rfl, hD.sub [0, 1, 2, 3, 4] (by decide +kernel) rfl⟩, hS.F ht⟩) hS.2.2 dX13_read_43
    · refine lv_if_ne (tgt := 25) hx hb dX13_read_16 (by decide +kernel) (fun c9 => absurd c9 (by decide +kernel)) (fun _ => ?_)
      refine lv_bipush (v := (-2)) hx hb dX13_read_19 (by decide +kernel) ?_
      refine vp_callSl (W.runS (As := [.int (-2)]) (rest := []) ⟨hx, hb, hml, hown, hts⟩ (c_X13_refused l D T (-2) (by decide +kernel)) (va_cwS 1 hts gX13_read_X13_refused rfl rfl rfl hs_X13_refused ⟨Nat.le_of_ble_eq_true rfl, Nat.le_of_ble_eq_true rfl⟩) (pR_S hP hE [] rfl) rfl rfl hl.1 rfl (lv_room (Nat.le_of_ble_eq_true rfl)) dX13_read_21 ⟨Nat.le_of_ble_eq_true rfl, Nat.le_of_ble_eq_true rfl⟩) (fun r_32 hr_32 => ?_)
      refine W.endD hd0 ?_
      exact W.lret hx hb hr (fun t ht hW => ⟨⟨_, (), rfl, trivial, by rw [ht]; exact hP.sub [0, 1, 2, 3, 4] rfl, hD.sub [0, 1, 2, 3, 4] (by decide +kernel) rfl⟩, hS.F ht⟩) hS.2.2 dX13_read_24
  · refine lv_if_eq (tgt := 19) hx hb dX13_read_4 (by decide +kernel) (fun _ => ?_) (fun c9 => absurd c9 (by decide +kernel))
    refine lv_bipush (v := (-2)) hx hb dX13_read_19 (by decide +kernel) ?_
    refine vp_callSl (W.runS (As := [.int (-2)]) (rest := []) ⟨hx, hb, hml, hown, hts⟩ (c_X13_refused l D T (-2) (by decide +kernel)) (va_cwS 1 hts gX13_read_X13_refused rfl rfl rfl hs_X13_refused ⟨Nat.le_of_ble_eq_true rfl, Nat.le_of_ble_eq_true rfl⟩) (pR_S hP hE [] rfl) rfl rfl hl.1 rfl (lv_room (Nat.le_of_ble_eq_true rfl)) dX13_read_21 ⟨Nat.le_of_ble_eq_true rfl, Nat.le_of_ble_eq_true rfl⟩) (fun r_33 hr_33 => ?_)
    refine W.endD hd0 ?_
    exact W.lret hx hb hr (fun t ht hW => ⟨⟨_, (), rfl, trivial, by rw [ht]; exact hP.sub [0, 1, 2, 3, 4] rfl, hD.sub [0, 1, 2, 3, 4] (by decide +kernel) rfl⟩, hS.F ht⟩) hS.2.2 dX13_read_24
