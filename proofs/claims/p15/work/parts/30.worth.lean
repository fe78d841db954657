/-- as Met.ofW, for a method that has no native row, whatever its class -/
theorem nw_ofWF {l : Launch} {y : MethodName} {ws ws' : List Cond} {rm : Room} {Pc : Array Value → State → Prop} {Qc : Array Value → State → Outcome → State → Prop} {mc ms : Nat} {free : Addr → Prop} {cc : ByteArray} {maxL : Nat} {ret : Option FieldType}
    (hy : plainFor y = true) (hw : ws = Cond.code y cc maxL ret :: ws')
    (body : ∀ p e s m args below meth c s₁, BodyLoose p l y (headSpec ws rm) cc maxL ret e s m args below meth c s₁ → c.maxLocals = maxL → Pc args s →
      W p l e (headSpec ws rm).room s m args below meth c s.heap [] 0 0 (MQ below Qc args s mc ms free) (entryFrame m args maxL)) : Met l y ws rm Pc Qc mc ms free := by
  refine MetFree.of_bodySF (code := cc) (maxLocals := maxL) (ret := ret) hy ?_ ?_
  · intro args s m h hn
    obtain ⟨meth, c, h1, h2, h3, h4, h5, h6, -, -⟩ := Cond.code_spec hn (atoms_spec (ws := ws) h _ (by rw [hw]; exact List.mem_cons_self))
    exact ⟨meth, c, h1, h2, h3, h4, h5, h6⟩
  · intro p e s m args below meth c s₁ B hml hP _
    have hh0 : s₁.heap = s.heap := by rw [B.state]; rfl
    obtain ⟨t, a1, o, b1, b2, b3⟩ := body p e s m args below meth c s₁ B hml hP s₁ hh0 (Stand.of_body B)
    exact ⟨t, o, a1, b1, b2, ⟨b3.1, b3.2⟩⟩
theorem nz32 {y : Int32} (h : y.toInt ≠ 0) : ¬ y = 0 := fun e => h (by rw [e]; rfl)
theorem spot_in {p t : Int32} (hp : 0 ≤ p.toInt ∧ p.toInt ≤ 63) (ht : 0 ≤ t.toInt ∧ t.toInt ≤ 6) : 0 ≤ (sp_bits (p &&& ((1 <<< (t &&& 31)) - 1))).toInt ∧ (sp_bits (p &&& ((1 <<< (t &&& 31)) - 1))).toInt ≤ t.toInt := by
  obtain ⟨j, hj, e⟩ := nI_of (x := p) (by rw [fa_lt, ti_0]; omega)
  obtain ⟨k, hk, e2⟩ := nI_of (x := t) (by rw [fa_lt, ti_0]; omega)
  subst e
  subst e2
  rw [nI_toInt hj] at hp
  rw [nI_toInt hk] at ht
  have key : ∀ a : Fin 64, ∀ b : Fin 7, 0 ≤ (sp_bits (nI a.val &&& ((1 <<< (nI b.val &&& 31)) - 1))).toInt ∧ (sp_bits (nI a.val &&& ((1 <<< (nI b.val &&& 31)) - 1))).toInt ≤ (nI b.val).toInt := by decide +kernel
  exact key ⟨j, by omega⟩ ⟨k, by omega⟩
theorem slot_in {x d k : Int32} (hx : 0 ≤ x.toInt ∧ x.toInt < 24) (hd : 0 ≤ d.toInt ∧ d.toInt ≤ 6) (hk : 0 ≤ k.toInt ∧ k.toInt ≤ d.toInt) : 0 ≤ (((x * 28) + ((d * (d + 1)) / 2)) + k).toInt ∧ (((x * 28) + ((d * (d + 1)) / 2)) + k).toInt < 672 := by
  obtain ⟨i, hi, e⟩ := nI_of (x := x) (by rw [fa_lt, ti_0]; omega)
  obtain ⟨j, hj, e2⟩ := nI_of (x := d) (by rw [fa_lt, ti_0]; omega)
  obtain ⟨q, hq, e3⟩ := nI_of (x := k) (by rw [fa_lt, ti_0]; omega)
  subst e
  subst e2
  subst e3
  rw [nI_toInt hi] at hx
  rw [nI_toInt hj] at hd hk
  rw [nI_toInt hq] at hk
  have key : ∀ a : Fin 24, ∀ b : Fin 7, ∀ c : Fin 7, c.val ≤ b.val → 0 ≤ (((nI a.val * 28) + ((nI b.val * (nI b.val + 1)) / 2)) + nI c.val).toInt ∧ (((nI a.val * 28) + ((nI b.val * (nI b.val + 1)) / 2)) + nI c.val).toInt < 672 := by decide +kernel
  exact key ⟨i, by omega⟩ ⟨j, by omega⟩ ⟨q, by omega⟩ (by show q ≤ j; omega)
theorem in13n {K : Nat} (h : K < 13) : K = 0 ∨ K = 1 ∨ K = 2 ∨ K = 3 ∨ K = 4 ∨ K = 5 ∨ K = 6 ∨ K = 7 ∨ K = 8 ∨ K = 9 ∨ K = 10 ∨ K = 11 ∨ K = 12 := by omega
theorem dJx29ce0_ordinal_8abf5_0 : decode cJx29ce0_ordinal_8abf5 0 = .ok (.aload_n 0, 1) := by decide +kernel
theorem dJx29ce0_ordinal_8abf5_1 : decode cJx29ce0_ordinal_8abf5 1 = .ok (.getfield 7, 3) := by decide +kernel
theorem dJx29ce0_ordinal_8abf5_4 : decode cJx29ce0_ordinal_8abf5 4 = .ok (.ireturn, 1) := by decide +kernel
set_option maxHeartbeats 4000000 in
set_option maxRecDepth 100000 in
theorem c_Jx29ce0_ordinal_8abf5 (l : Launch) (D : va_G) (T : Nat → ClassId) (ad sa av : Nat → Nat) (ta : Nat) (K : Nat) (hi9 : K < 13) : Met l yJx29ce0_ordinal_8abf5 wsJx29ce0_ordinal_8abf5 ({ frames := 0, cells := 0, slots := 0, locals := 0 }) (pRk [.ref (ad K)] D T [] ad sa av ta) (vp_Si (fun r => r = odT K)) 0 0 (fun _ => False) := by
  refine Met.ofW (cc := cJx29ce0_ordinal_8abf5) (maxL := 1) (ret := (some .int)) (by decide +kernel) rfl ?_
  intro p e s m args below meth c s₁ B hml hv
  obtain ⟨rfl, hP, hE, hV⟩ := hv
  have hS : va_S (fun _ => False) s.heap s.heap [] := va_S.rf
  have hx := B.exec
  have hb := B.bytes
  have hr := B.returns
  have hts := atoms_spec (ws := wsJx29ce0_ordinal_8abf5) B.pre
  have hown : s.vm.findClass RJx29ce0 = some m.cls := findClass_of_methodNamed B.named
  have hlocks := B.notSynchronized
  have hP : va_P D vwCl [] s.heap := hP
  have hl := lv_entry ([.ref (ad K)]) (n := 1) (Nat.le_of_ble_eq_true rfl)
  rw [lg_entry_eq]
  generalize (lg_sl ([.ref (ad K)]) ++ List.replicate (1 - (lg_sl ([.ref (ad K)])).length) Slot.unset).toArray = ls at hl ⊢
  have hl : lv_has ls 1 [(0, .ref (ad K))] := hl
  refine lv_aload_n hx hb dJx29ce0_ordinal_8abf5_0 rfl (lv_at hl 0 rfl) ?_
  refine va_getE (i := K) hx hb hV.1.1 hi9 hS hown (q := ("java/lang/Enum", "ordinal", "I", [0, 1, 2, 3, 4, 5, 6, 7, 8, 9, 10, 11, 12])) (List.mem_of_getElem? (i := 4) rfl) (hts (.fieldLink RJx29ce0 7 "java/lang/Enum" "ordinal" "I") (List.mem_of_getElem? (i := 1) rfl)) (fun _ h9 => h9) dJx29ce0_ordinal_8abf5_1 ?_
  refine W.eq (g2 := F0 m 4 ls [.int (odT K)]) rfl ?_
  exact W.iret hx hb hr (fun t ht hW => ⟨_, rfl, rfl, ht⟩) (fun _ h => by cases h) dJx29ce0_ordinal_8abf5_4
theorem dJ9_floorDiv_f86c9_0 : decode cJ9_floorDiv_f86c9 0 = .ok (.lload_n 0, 1) := by decide +kernel
theorem dJ9_floorDiv_f86c9_1 : decode cJ9_floorDiv_f86c9 1 = .ok (.lload_n 2, 1) := by decide +kernel
theorem dJ9_floorDiv_f86c9_10 : decode cJ9_floorDiv_f86c9 10 = .ok (.ifCond .ge 17, 3) := by decide +kernel
theorem dJ9_floorDiv_f86c9_13 : decode cJ9_floorDiv_f86c9 13 = .ok (.lload 4, 2) := by decide +kernel
theorem dJ9_floorDiv_f86c9_15 : decode cJ9_floorDiv_f86c9 15 = .ok (.lload_n 2, 1) := by decide +kernel
theorem dJ9_floorDiv_f86c9_16 : decode cJ9_floorDiv_f86c9 16 = .ok (.lmul, 1) := by decide +kernel
theorem dJ9_floorDiv_f86c9_17 : decode cJ9_floorDiv_f86c9 17 = .ok (.lload_n 0, 1) := by decide +kernel
theorem dJ9_floorDiv_f86c9_18 : decode cJ9_floorDiv_f86c9 18 = .ok (.lcmp, 1) := by decide +kernel
theorem dJ9_floorDiv_f86c9_19 : decode cJ9_floorDiv_f86c9 19 = .ok (.ifCond .eq 8, 3) := by decide +kernel
theorem dJ9_floorDiv_f86c9_2 : decode cJ9_floorDiv_f86c9 2 = .ok (.ldiv, 1) := by decide +kernel
theorem dJ9_floorDiv_f86c9_22 : decode cJ9_floorDiv_f86c9 22 = .ok (.lload 4, 2) := by decide +kernel
theorem dJ9_floorDiv_f86c9_24 : decode cJ9_floorDiv_f86c9 24 = .ok (.lconst 1, 1) := by decide +kernel
theorem dJ9_floorDiv_f86c9_25 : decode cJ9_floorDiv_f86c9 25 = .ok (.lsub, 1) := by decide +kernel
theorem dJ9_floorDiv_f86c9_26 : decode cJ9_floorDiv_f86c9 26 = .ok (.lreturn, 1) := by decide +kernel
theorem dJ9_floorDiv_f86c9_27 : decode cJ9_floorDiv_f86c9 27 = .ok (.lload 4, 2) := by decide +kernel
theorem dJ9_floorDiv_f86c9_29 : decode cJ9_floorDiv_f86c9 29 = .ok (.lreturn, 1) := by decide +kernel
theorem dJ9_floorDiv_f86c9_3 : decode cJ9_floorDiv_f86c9 3 = .ok (.lstore 4, 2) := by decide +kernel
theorem dJ9_floorDiv_f86c9_5 : decode cJ9_floorDiv_f86c9 5 = .ok (.lload_n 0, 1) := by decide +kernel
theorem dJ9_floorDiv_f86c9_6 : decode cJ9_floorDiv_f86c9 6 = .ok (.lload_n 2, 1) := by decide +kernel
theorem dJ9_floorDiv_f86c9_7 : decode cJ9_floorDiv_f86c9 7 = .ok (.lxor, 1) := by decide +kernel
theorem dJ9_floorDiv_f86c9_8 : decode cJ9_floorDiv_f86c9 8 = .ok (.lconst 0, 1) := by decide +kernel
theorem dJ9_floorDiv_f86c9_9 : decode cJ9_floorDiv_f86c9 9 = .ok (.lcmp, 1) := by decide +kernel
set_option maxHeartbeats 4000000 in
set_option maxRecDepth 100000 in
theorem c_J9_floorDiv_f86c9 (l : Launch) (D : va_G) (T : Nat → ClassId) (x0 : Int64) (x1 : Int64) (hnz : 1 ≤ x1.toInt) : Met l yJ9_floorDiv_f86c9 wsJ9_floorDiv_f86c9 ({ frames := 0, cells := 0, slots := 0, locals := 0 }) (pR [.long x0, .long x1] D T []) (vp_Sl (fun r => r.toInt = x0.toInt / x1.toInt)) 0 0 (fun _ => False) := by
  refine nw_ofWF (cc := cJ9_floorDiv_f86c9) (maxL := 6) (ret := (some .long)) (by decide +kernel) rfl ?_
  intro p e s m args below meth c s₁ B hml hv
  obtain ⟨rfl, hP, hE⟩ := hv
  have hx := B.exec
  have hb := B.bytes
  have hr := B.returns
  have hts := atoms_spec (ws := wsJ9_floorDiv_f86c9) B.pre
  have hown : s.vm.findClass RJ9 = some m.cls := findClass_of_methodNamed B.named
  have hlocks := B.notSynchronized
  have hP : va_P D vwCl [] s.heap := hP
  have hl := lv_entry ([.long x0, .long x1]) (n := 6) (Nat.le_of_ble_eq_true rfl)
  rw [lg_entry_eq]
  generalize (lg_sl ([.long x0, .long x1]) ++ List.replicate (6 - (lg_sl ([.long x0, .long x1])).length) Slot.unset).toArray = ls at hl ⊢
  have hl : lv_has ls 6 [(0, .long x0), (2, .long x1)] := hl
  refine lv_lload_n hx hb dJ9_floorDiv_f86c9_0 rfl (lv_at hl 0 rfl) ?_
  refine lv_lload_n hx hb dJ9_floorDiv_f86c9_1 rfl (lv_at hl 1 rfl) ?_
  refine lv_ldiv hx hb dJ9_floorDiv_f86c9_2 (nz64 (by omega)) ?_
  refine lv_topl (fun z_1 ez_1 => ?_)
  refine lv_lstore (lv' := [(4, .long z_1), (0, .long x0), (2, .long x1)]) hx hb dJ9_floorDiv_f86c9_3 hl (by decide +kernel) rfl (fun ls hl => ?_)
  refine lv_lload_n hx hb dJ9_floorDiv_f86c9_5 rfl (lv_at hl 1 rfl) ?_
  refine lv_lload_n hx hb dJ9_floorDiv_f86c9_6 rfl (lv_at hl 2 rfl) ?_
  refine lv_lxor hx hb dJ9_floorDiv_f86c9_7 ?_
  refine lv_lconst (v := 0) hx hb dJ9_floorDiv_f86c9_8 (by decide +kernel) ?_
  refine W.lcmp hx hb dJ9_floorDiv_f86c9_9 ?_
  refine lv_if_ge (tgt := 27) hx hb dJ9_floorDiv_f86c9_10 (by decide +kernel) (fun c_2 => ?_) (fun c_2 => ?_)
  · rw [lcmp_ge] at c_2
    try rw [tl_0] at c_2
    refine lv_lload hx hb dJ9_floorDiv_f86c9_27 (lv_at hl 0 rfl) ?_
    exact W.lret hx hb hr (fun t ht hW => ⟨_, rfl, (by first | exact fdA hnz (by assumption) (by omega) | exact fdB hnz (by assumption) (by omega) (by assumption) | exact fdC hnz (by assumption) (by omega) (by assumption)), ht⟩) (fun _ h => by cases h) dJ9_floorDiv_f86c9_29
  · rw [lcmp_ge] at c_2
    try rw [tl_0] at c_2
    refine lv_lload hx hb dJ9_floorDiv_f86c9_13 (lv_at hl 0 rfl) ?_
    refine lv_lload_n hx hb dJ9_floorDiv_f86c9_15 rfl (lv_at hl 2 rfl) ?_
    refine lv_lmul hx hb dJ9_floorDiv_f86c9_16 ?_
    refine lv_lload_n hx hb dJ9_floorDiv_f86c9_17 rfl (lv_at hl 1 rfl) ?_
    refine W.lcmp hx hb dJ9_floorDiv_f86c9_18 ?_
    refine lv_if_eq (tgt := 27) hx hb dJ9_floorDiv_f86c9_19 (by decide +kernel) (fun c_3 => ?_) (fun c_3 => ?_)
    · rw [lcmp_eq] at c_3
      refine lv_lload hx hb dJ9_floorDiv_f86c9_27 (lv_at hl 0 rfl) ?_
      exact W.lret hx hb hr (fun t ht hW => ⟨_, rfl, (by first | exact fdA hnz (by assumption) (by omega) | exact fdB hnz (by assumption) (by omega) (by assumption) | exact fdC hnz (by assumption) (by omega) (by assumption)), ht⟩) (fun _ h => by cases h) dJ9_floorDiv_f86c9_29
    · rw [lcmp_eq] at c_3
      refine lv_lload hx hb dJ9_floorDiv_f86c9_22 (lv_at hl 0 rfl) ?_
      refine lv_lconst (v := 1) hx hb dJ9_floorDiv_f86c9_24 (by decide +kernel) ?_
      refine lv_lsub hx hb dJ9_floorDiv_f86c9_25 ?_
      exact W.lret hx hb hr (fun t ht hW => ⟨_, rfl, (by first | exact fdA hnz (by assumption) (by omega) | exact fdB hnz (by assumption) (by omega) (by assumption) | exact fdC hnz (by assumption) (by omega) (by assumption)), ht⟩) (fun _ h => by cases h) dJ9_floorDiv_f86c9_26
theorem dJ9_floorMod_f86c9_0 : decode cJ9_floorMod_f86c9 0 = .ok (.lload_n 0, 1) := by decide +kernel
theorem dJ9_floorMod_f86c9_1 : decode cJ9_floorMod_f86c9 1 = .ok (.lload_n 2, 1) := by decide +kernel
theorem dJ9_floorMod_f86c9_10 : decode cJ9_floorMod_f86c9 10 = .ok (.ifCond .ge 15, 3) := by decide +kernel
theorem dJ9_floorMod_f86c9_13 : decode cJ9_floorMod_f86c9 13 = .ok (.lload 4, 2) := by decide +kernel
theorem dJ9_floorMod_f86c9_15 : decode cJ9_floorMod_f86c9 15 = .ok (.lconst 0, 1) := by decide +kernel
theorem dJ9_floorMod_f86c9_16 : decode cJ9_floorMod_f86c9 16 = .ok (.lcmp, 1) := by decide +kernel
theorem dJ9_floorMod_f86c9_17 : decode cJ9_floorMod_f86c9 17 = .ok (.ifCond .eq 8, 3) := by decide +kernel
theorem dJ9_floorMod_f86c9_2 : decode cJ9_floorMod_f86c9 2 = .ok (.lrem, 1) := by decide +kernel
theorem dJ9_floorMod_f86c9_20 : decode cJ9_floorMod_f86c9 20 = .ok (.lload 4, 2) := by decide +kernel
theorem dJ9_floorMod_f86c9_22 : decode cJ9_floorMod_f86c9 22 = .ok (.lload_n 2, 1) := by decide +kernel
theorem dJ9_floorMod_f86c9_23 : decode cJ9_floorMod_f86c9 23 = .ok (.ladd, 1) := by decide +kernel
theorem dJ9_floorMod_f86c9_24 : decode cJ9_floorMod_f86c9 24 = .ok (.lreturn, 1) := by decide +kernel
theorem dJ9_floorMod_f86c9_25 : decode cJ9_floorMod_f86c9 25 = .ok (.lload 4, 2) := by decide +kernel
theorem dJ9_floorMod_f86c9_27 : decode cJ9_floorMod_f86c9 27 = .ok (.lreturn, 1) := by decide +kernel
theorem dJ9_floorMod_f86c9_3 : decode cJ9_floorMod_f86c9 3 = .ok (.lstore 4, 2) := by decide +kernel
theorem dJ9_floorMod_f86c9_5 : decode cJ9_floorMod_f86c9 5 = .ok (.lload_n 0, 1) := by decide +kernel
theorem dJ9_floorMod_f86c9_6 : decode cJ9_floorMod_f86c9 6 = .ok (.lload_n 2, 1) := by decide +kernel
theorem dJ9_floorMod_f86c9_7 : decode cJ9_floorMod_f86c9 7 = .ok (.lxor, 1) := by decide +kernel
theorem dJ9_floorMod_f86c9_8 : decode cJ9_floorMod_f86c9 8 = .ok (.lconst 0, 1) := by decide +kernel
theorem dJ9_floorMod_f86c9_9 : decode cJ9_floorMod_f86c9 9 = .ok (.lcmp, 1) := by decide +kernel
set_option maxHeartbeats 4000000 in
set_option maxRecDepth 100000 in
theorem c_J9_floorMod_f86c9 (l : Launch) (D : va_G) (T : Nat → ClassId) (x0 : Int64) (x1 : Int64) (hnz : 1 ≤ x1.toInt) : Met l yJ9_floorMod_f86c9 wsJ9_floorMod_f86c9 ({ frames := 0, cells := 0, slots := 0, locals := 0 }) (pR [.long x0, .long x1] D T []) (vp_Sl (fun r => r.toInt = x0.toInt % x1.toInt)) 0 0 (fun _ => False) := by
  refine nw_ofWF (cc := cJ9_floorMod_f86c9) (maxL := 6) (ret := (some .long)) (by decide +kernel) rfl ?_
  intro p e s m args below meth c s₁ B hml hv
  obtain ⟨rfl, hP, hE⟩ := hv
  have hx := B.exec
  have hb := B.bytes
  have hr := B.returns
  have hts := atoms_spec (ws := wsJ9_floorMod_f86c9) B.pre
  have hown : s.vm.findClass RJ9 = some m.cls := findClass_of_methodNamed B.named
  have hlocks := B.notSynchronized
  have hP : va_P D vwCl [] s.heap := hP
  have hl := lv_entry ([.long x0, .long x1]) (n := 6) (Nat.le_of_ble_eq_true rfl)
  rw [lg_entry_eq]
  generalize (lg_sl ([.long x0, .long x1]) ++ List.replicate (6 - (lg_sl ([.long x0, .long x1])).length) Slot.unset).toArray = ls at hl ⊢
  have hl : lv_has ls 6 [(0, .long x0), (2, .long x1)] := hl
  refine lv_lload_n hx hb dJ9_floorMod_f86c9_0 rfl (lv_at hl 0 rfl) ?_
  refine lv_lload_n hx hb dJ9_floorMod_f86c9_1 rfl (lv_at hl 1 rfl) ?_
  refine lv_lrem hx hb dJ9_floorMod_f86c9_2 (nz64 (by omega)) ?_
  refine lv_topl (fun z_1 ez_1 => ?_)
  refine lv_lstore (lv' := [(4, .long z_1), (0, .long x0), (2, .long x1)]) hx hb dJ9_floorMod_f86c9_3 hl (by decide +kernel) rfl (fun ls hl => ?_)
  refine lv_lload_n hx hb dJ9_floorMod_f86c9_5 rfl (lv_at hl 1 rfl) ?_
  refine lv_lload_n hx hb dJ9_floorMod_f86c9_6 rfl (lv_at hl 2 rfl) ?_
  refine lv_lxor hx hb dJ9_floorMod_f86c9_7 ?_
  refine lv_lconst (v := 0) hx hb dJ9_floorMod_f86c9_8 (by decide +kernel) ?_
  refine W.lcmp hx hb dJ9_floorMod_f86c9_9 ?_
  refine lv_if_ge (tgt := 25) hx hb dJ9_floorMod_f86c9_10 (by decide +kernel) (fun c_2 => ?_) (fun c_2 => ?_)
  · rw [lcmp_ge] at c_2
    try rw [tl_0] at c_2
    refine lv_lload hx hb dJ9_floorMod_f86c9_25 (lv_at hl 0 rfl) ?_
    exact W.lret hx hb hr (fun t ht hW => ⟨_, rfl, (by first | exact fmA hnz (by assumption) (by omega) | exact fmB hnz (by assumption) (by omega) | exact fmC hnz (by assumption) (by omega) (by omega)), ht⟩) (fun _ h => by cases h) dJ9_floorMod_f86c9_27
  · rw [lcmp_ge] at c_2
    try rw [tl_0] at c_2
    refine lv_lload hx hb dJ9_floorMod_f86c9_13 (lv_at hl 0 rfl) ?_
    refine lv_lconst (v := 0) hx hb dJ9_floorMod_f86c9_15 (by decide +kernel) ?_
    refine W.lcmp hx hb dJ9_floorMod_f86c9_16 ?_
    refine lv_if_eq (tgt := 25) hx hb dJ9_floorMod_f86c9_17 (by decide +kernel) (fun c_3 => ?_) (fun c_3 => ?_)
    · rw [lcmp_eq] at c_3
      try rw [tl_0] at c_3
      refine lv_lload hx hb dJ9_floorMod_f86c9_25 (lv_at hl 0 rfl) ?_
      exact W.lret hx hb hr (fun t ht hW => ⟨_, rfl, (by first | exact fmA hnz (by assumption) (by omega) | exact fmB hnz (by assumption) (by omega) | exact fmC hnz (by assumption) (by omega) (by omega)), ht⟩) (fun _ h => by cases h) dJ9_floorMod_f86c9_27
    · rw [lcmp_eq] at c_3
      try rw [tl_0] at c_3
      refine lv_lload hx hb dJ9_floorMod_f86c9_20 (lv_at hl 0 rfl) ?_
      refine lv_lload_n hx hb dJ9_floorMod_f86c9_22 rfl (lv_at hl 2 rfl) ?_
      refine lv_ladd hx hb dJ9_floorMod_f86c9_23 ?_
      exact W.lret hx hb hr (fun t ht hW => ⟨_, rfl, (by first | exact fmA hnz (by assumption) (by omega) | exact fmB hnz (by assumption) (by omega) | exact fmC hnz (by assumption) (by omega) (by omega)), ht⟩) (fun _ h => by cases h) dJ9_floorMod_f86c9_24
theorem dX11_sumFits_0 : decode cX11_sumFits 0 = .ok (.lload_n 0, 1) := by decide +kernel
theorem dX11_sumFits_1 : decode cX11_sumFits 1 = .ok (.lload_n 2, 1) := by decide +kernel
theorem dX11_sumFits_10 : decode cX11_sumFits 10 = .ok (.lload 4, 2) := by decide +kernel
theorem dX11_sumFits_12 : decode cX11_sumFits 12 = .ok (.lxor, 1) := by decide +kernel
theorem dX11_sumFits_13 : decode cX11_sumFits 13 = .ok (.land, 1) := by decide +kernel
theorem dX11_sumFits_14 : decode cX11_sumFits 14 = .ok (.lconst 0, 1) := by decide +kernel
theorem dX11_sumFits_15 : decode cX11_sumFits 15 = .ok (.lcmp, 1) := by decide +kernel
theorem dX11_sumFits_16 : decode cX11_sumFits 16 = .ok (.ifCond .lt 7, 3) := by decide +kernel
theorem dX11_sumFits_19 : decode cX11_sumFits 19 = .ok (.iconst 1, 1) := by decide +kernel
theorem dX11_sumFits_2 : decode cX11_sumFits 2 = .ok (.ladd, 1) := by decide +kernel
theorem dX11_sumFits_20 : decode cX11_sumFits 20 = .ok (.goto 4, 3) := by decide +kernel
theorem dX11_sumFits_23 : decode cX11_sumFits 23 = .ok (.iconst 0, 1) := by decide +kernel
theorem dX11_sumFits_24 : decode cX11_sumFits 24 = .ok (.ireturn, 1) := by decide +kernel
theorem dX11_sumFits_3 : decode cX11_sumFits 3 = .ok (.lstore 4, 2) := by decide +kernel
theorem dX11_sumFits_5 : decode cX11_sumFits 5 = .ok (.lload_n 0, 1) := by decide +kernel
theorem dX11_sumFits_6 : decode cX11_sumFits 6 = .ok (.lload 4, 2) := by decide +kernel
theorem dX11_sumFits_8 : decode cX11_sumFits 8 = .ok (.lxor, 1) := by decide +kernel
theorem dX11_sumFits_9 : decode cX11_sumFits 9 = .ok (.lload_n 2, 1) := by decide +kernel
set_option maxHeartbeats 4000000 in
set_option maxRecDepth 100000 in
theorem c_X11_sumFits (l : Launch) (D : va_G) (T : Nat → ClassId) (x0 : Int64) (x1 : Int64)  : Met l yX11_sumFits wsX11_sumFits ({ frames := 0, cells := 0, slots := 0, locals := 0 }) (pR [.long x0, .long x1] D T []) (vp_Si (fun r => r = if fitA x0 x1 then 1 else 0)) 0 0 (fun _ => False) := by
  refine Met.ofW (cc := cX11_sumFits) (maxL := 6) (ret := (some .boolean)) (by decide +kernel) rfl ?_
  intro p e s m args below meth c s₁ B hml hv
  obtain ⟨rfl, hP, hE⟩ := hv
  have hx := B.exec
  have hb := B.bytes
  have hr := B.returns
  have hts := atoms_spec (ws := wsX11_sumFits) B.pre
  have hown : s.vm.findClass RX11 = some m.cls := findClass_of_methodNamed B.named
  have hlocks := B.notSynchronized
  have hP : va_P D vwCl [] s.heap := hP
  have hl := lv_entry ([.long x0, .long x1]) (n := 6) (Nat.le_of_ble_eq_true rfl)
  rw [lg_entry_eq]
  generalize (lg_sl ([.long x0, .long x1]) ++ List.replicate (6 - (lg_sl ([.long x0, .long x1])).length) Slot.unset).toArray = ls at hl ⊢
  have hl : lv_has ls 6 [(0, .long x0), (2, .long x1)] := hl
  refine lv_lload_n hx hb dX11_sumFits_0 rfl (lv_at hl 0 rfl) ?_
  refine lv_lload_n hx hb dX11_sumFits_1 rfl (lv_at hl 1 rfl) ?_
  refine lv_ladd hx hb dX11_sumFits_2 ?_
  refine lv_topl (fun z_1 ez_1 => ?_)
  refine lv_lstore (lv' := [(4, .long z_1), (0, .long x0), (2, .long x1)]) hx hb dX11_sumFits_3 hl (by decide +kernel) rfl (fun ls hl => ?_)
  refine lv_lload_n hx hb dX11_sumFits_5 rfl (lv_at hl 1 rfl) ?_
  refine lv_lload hx hb dX11_sumFits_6 (lv_at hl 0 rfl) ?_
  refine lv_lxor hx hb dX11_sumFits_8 ?_
  refine lv_lload_n hx hb dX11_sumFits_9 rfl (lv_at hl 2 rfl) ?_
  refine lv_lload hx hb dX11_sumFits_10 (lv_at hl 0 rfl) ?_
  refine lv_lxor hx hb dX11_sumFits_12 ?_
  refine lv_land hx hb dX11_sumFits_13 ?_
  refine lv_lconst (v := 0) hx hb dX11_sumFits_14 (by decide +kernel) ?_
  refine W.lcmp hx hb dX11_sumFits_15 ?_
  refine lv_if_lt (tgt := 23) hx hb dX11_sumFits_16 (by decide +kernel) (fun c_2 => ?_) (fun c_2 => ?_)
  · rw [lcmp_lt] at c_2
    try rw [tl_0] at c_2
    refine lv_iconst (v := 0) hx hb dX11_sumFits_23 (by decide +kernel) ?_
    exact W.zret hx hb hr rfl (fun t ht hW => ⟨_, rfl, (by exact (if_neg (fun h9 => by have h8 := (fitA_and ez_1).1 h9; omega)).symm), ht⟩) (fun _ h => by cases h) dX11_sumFits_24
  · rw [lcmp_lt] at c_2
    try rw [tl_0] at c_2
    refine lv_iconst (v := 1) hx hb dX11_sumFits_19 (by decide +kernel) ?_
    refine lv_goto (tgt := 24) hx hb dX11_sumFits_20 (by decide +kernel) ?_
    exact W.zret hx hb hr rfl (fun t ht hW => ⟨_, rfl, (by exact (if_pos ((fitA_and ez_1).2 (by omega))).symm), ht⟩) (fun _ h => by cases h) dX11_sumFits_24
theorem dX11_productFits_0 : decode cX11_productFits 0 = .ok (.lload_n 0, 1) := by decide +kernel
theorem dX11_productFits_1 : decode cX11_productFits 1 = .ok (.lconst 0, 1) := by decide +kernel
theorem dX11_productFits_12 : decode cX11_productFits 12 = .ok (.iconst 1, 1) := by decide +kernel
theorem dX11_productFits_13 : decode cX11_productFits 13 = .ok (.ireturn, 1) := by decide +kernel
theorem dX11_productFits_14 : decode cX11_productFits 14 = .ok (.lload_n 2, 1) := by decide +kernel
theorem dX11_productFits_15 : decode cX11_productFits 15 = .ok (.ldc2_w 75, 3) := by decide +kernel
theorem dX11_productFits_18 : decode cX11_productFits 18 = .ok (.lcmp, 1) := by decide +kernel
theorem dX11_productFits_19 : decode cX11_productFits 19 = .ok (.ifCond .ne 17, 3) := by decide +kernel
theorem dX11_productFits_2 : decode cX11_productFits 2 = .ok (.lcmp, 1) := by decide +kernel
theorem dX11_productFits_22 : decode cX11_productFits 22 = .ok (.lload_n 0, 1) := by decide +kernel
theorem dX11_productFits_23 : decode cX11_productFits 23 = .ok (.ldc2_w 169, 3) := by decide +kernel
theorem dX11_productFits_26 : decode cX11_productFits 26 = .ok (.lcmp, 1) := by decide +kernel
theorem dX11_productFits_27 : decode cX11_productFits 27 = .ok (.ifCond .eq 7, 3) := by decide +kernel
theorem dX11_productFits_3 : decode cX11_productFits 3 = .ok (.ifCond .eq 9, 3) := by decide +kernel
theorem dX11_productFits_30 : decode cX11_productFits 30 = .ok (.iconst 1, 1) := by decide +kernel
theorem dX11_productFits_31 : decode cX11_productFits 31 = .ok (.goto 4, 3) := by decide +kernel
theorem dX11_productFits_34 : decode cX11_productFits 34 = .ok (.iconst 0, 1) := by decide +kernel
theorem dX11_productFits_35 : decode cX11_productFits 35 = .ok (.ireturn, 1) := by decide +kernel
theorem dX11_productFits_36 : decode cX11_productFits 36 = .ok (.lload_n 0, 1) := by decide +kernel
theorem dX11_productFits_37 : decode cX11_productFits 37 = .ok (.ldc2_w 75, 3) := by decide +kernel
theorem dX11_productFits_40 : decode cX11_productFits 40 = .ok (.lcmp, 1) := by decide +kernel
theorem dX11_productFits_41 : decode cX11_productFits 41 = .ok (.ifCond .ne 17, 3) := by decide +kernel
theorem dX11_productFits_44 : decode cX11_productFits 44 = .ok (.lload_n 2, 1) := by decide +kernel
theorem dX11_productFits_45 : decode cX11_productFits 45 = .ok (.ldc2_w 169, 3) := by decide +kernel
theorem dX11_productFits_48 : decode cX11_productFits 48 = .ok (.lcmp, 1) := by decide +kernel
theorem dX11_productFits_49 : decode cX11_productFits 49 = .ok (.ifCond .eq 7, 3) := by decide +kernel
theorem dX11_productFits_52 : decode cX11_productFits 52 = .ok (.iconst 1, 1) := by decide +kernel
theorem dX11_productFits_53 : decode cX11_productFits 53 = .ok (.goto 4, 3) := by decide +kernel
theorem dX11_productFits_56 : decode cX11_productFits 56 = .ok (.iconst 0, 1) := by decide +kernel
theorem dX11_productFits_57 : decode cX11_productFits 57 = .ok (.ireturn, 1) := by decide +kernel
theorem dX11_productFits_58 : decode cX11_productFits 58 = .ok (.lload_n 0, 1) := by decide +kernel
theorem dX11_productFits_59 : decode cX11_productFits 59 = .ok (.lload_n 2, 1) := by decide +kernel
theorem dX11_productFits_6 : decode cX11_productFits 6 = .ok (.lload_n 2, 1) := by decide +kernel
theorem dX11_productFits_60 : decode cX11_productFits 60 = .ok (.lmul, 1) := by decide +kernel
theorem dX11_productFits_61 : decode cX11_productFits 61 = .ok (.lload_n 2, 1) := by decide +kernel
theorem dX11_productFits_62 : decode cX11_productFits 62 = .ok (.ldiv, 1) := by decide +kernel
theorem dX11_productFits_63 : decode cX11_productFits 63 = .ok (.lload_n 0, 1) := by decide +kernel
theorem dX11_productFits_64 : decode cX11_productFits 64 = .ok (.lcmp, 1) := by decide +kernel
theorem dX11_productFits_65 : decode cX11_productFits 65 = .ok (.ifCond .ne 7, 3) := by decide +kernel
theorem dX11_productFits_68 : decode cX11_productFits 68 = .ok (.iconst 1, 1) := by decide +kernel
theorem dX11_productFits_69 : decode cX11_productFits 69 = .ok (.goto 4, 3) := by decide +kernel
theorem dX11_productFits_7 : decode cX11_productFits 7 = .ok (.lconst 0, 1) := by decide +kernel
theorem dX11_productFits_72 : decode cX11_productFits 72 = .ok (.iconst 0, 1) := by decide +kernel
theorem dX11_productFits_73 : decode cX11_productFits 73 = .ok (.ireturn, 1) := by decide +kernel
theorem dX11_productFits_8 : decode cX11_productFits 8 = .ok (.lcmp, 1) := by decide +kernel
theorem dX11_productFits_9 : decode cX11_productFits 9 = .ok (.ifCond .ne 5, 3) := by decide +kernel
set_option maxHeartbeats 4000000 in
set_option maxRecDepth 100000 in
theorem c_X11_productFits (l : Launch) (D : va_G) (T : Nat → ClassId) (x0 : Int64) (x1 : Int64)  : Met l yX11_productFits wsX11_productFits ({ frames := 0, cells := 0, slots := 0, locals := 0 }) (pR [.long x0, .long x1] D T []) (vp_Si (fun r => r = if fitM x0 x1 then 1 else 0)) 0 0 (fun _ => False) := by
  refine Met.ofW (cc := cX11_productFits) (maxL := 4) (ret := (some .boolean)) (by decide +kernel) rfl ?_
  intro p e s m args below meth c s₁ B hml hv
  obtain ⟨rfl, hP, hE⟩ := hv
  have hx := B.exec
  have hb := B.bytes
  have hr := B.returns
  have hts := atoms_spec (ws := wsX11_productFits) B.pre
  have hown : s.vm.findClass RX11 = some m.cls := findClass_of_methodNamed B.named
  have hlocks := B.notSynchronized
  have hP : va_P D vwCl [] s.heap := hP
  have hl := lv_entry ([.long x0, .long x1]) (n := 4) (Nat.le_of_ble_eq_true rfl)
  rw [lg_entry_eq]
  generalize (lg_sl ([.long x0, .long x1]) ++ List.replicate (4 - (lg_sl ([.long x0, .long x1])).length) Slot.unset).toArray = ls at hl ⊢
  have hl : lv_has ls 4 [(0, .long x0), (2, .long x1)] := hl
  refine lv_lload_n hx hb dX11_productFits_0 rfl (lv_at hl 0 rfl) ?_
  refine lv_lconst (v := 0) hx hb dX11_productFits_1 (by decide +kernel) ?_
  refine W.lcmp hx hb dX11_productFits_2 ?_
  refine lv_if_eq (tgt := 12) hx hb dX11_productFits_3 (by decide +kernel) (fun c_1 => ?_) (fun c_1 => ?_)
  · rw [lcmp_eq] at c_1
    try rw [tl_0] at c_1
    refine lv_iconst (v := 1) hx hb dX11_productFits_12 (by decide +kernel) ?_
    exact W.zret hx hb hr rfl (fun t ht hW => ⟨_, rfl, (by exact (if_pos (by first | exact fitM_0 (by omega) | exact (fitM_n1 (by omega)).2 (by omega) | exact fitM_c.2 ((fitM_n1 (by omega)).2 (by omega)) | exact fitM_no (by omega) (by omega) rfl (by assumption))).symm), ht⟩) (fun _ h => by cases h) dX11_productFits_13
  · rw [lcmp_eq] at c_1
    try rw [tl_0] at c_1
    refine lv_lload_n hx hb dX11_productFits_6 rfl (lv_at hl 1 rfl) ?_
    refine lv_lconst (v := 0) hx hb dX11_productFits_7 (by decide +kernel) ?_
    refine W.lcmp hx hb dX11_productFits_8 ?_
    refine lv_if_ne (tgt := 14) hx hb dX11_productFits_9 (by decide +kernel) (fun c_2 => ?_) (fun c_2 => ?_)
    · rw [lcmp_eq] at c_2
      try rw [tl_0] at c_2
      refine lv_lload_n hx hb dX11_productFits_14 rfl (lv_at hl 1 rfl) ?_
      refine lv_ldc2 (v := (-1)) hx hb hown (hts (.constantLong RX11 75 (-1)) (List.mem_of_getElem? (i := 1) rfl)) dX11_productFits_15 ?_
      refine W.lcmp hx hb dX11_productFits_18 ?_
      refine lv_if_ne (tgt := 36) hx hb dX11_productFits_19 (by decide +kernel) (fun c_3 => ?_) (fun c_3 => ?_)
      · rw [lcmp_eq] at c_3
        try rw [tl_n1] at c_3
        refine lv_lload_n hx hb dX11_productFits_36 rfl (lv_at hl 0 rfl) ?_
        refine lv_ldc2 (v := (-1)) hx hb hown (hts (.constantLong RX11 75 (-1)) (List.mem_of_getElem? (i := 1) rfl)) dX11_productFits_37 ?_
        refine W.lcmp hx hb dX11_productFits_40 ?_
        refine lv_if_ne (tgt := 58) hx hb dX11_productFits_41 (by decide +kernel) (fun c_4 => ?_) (fun c_4 => ?_)
        · rw [lcmp_eq] at c_4
          try rw [tl_n1] at c_4
          refine lv_lload_n hx hb dX11_productFits_58 rfl (lv_at hl 0 rfl) ?_
          refine lv_lload_n hx hb dX11_productFits_59 rfl (lv_at hl 1 rfl) ?_
          refine lv_lmul hx hb dX11_productFits_60 ?_
          refine lv_lload_n hx hb dX11_productFits_61 rfl (lv_at hl 1 rfl) ?_
          refine lv_ldiv hx hb dX11_productFits_62 (nz64 (by omega)) ?_
          refine lv_lload_n hx hb dX11_productFits_63 rfl (lv_at hl 0 rfl) ?_
          refine W.lcmp hx hb dX11_productFits_64 ?_
          refine lv_if_ne (tgt := 72) hx hb dX11_productFits_65 (by decide +kernel) (fun c_5 => ?_) (fun c_5 => ?_)
          · rw [lcmp_eq] at c_5
            refine lv_iconst (v := 0) hx hb dX11_productFits_72 (by decide +kernel) ?_
            exact W.zret hx hb hr rfl (fun t ht hW => ⟨_, rfl, (by exact (if_neg (fun h9 => by first | exact absurd (by omega) ((fitM_n1 (by omega)).1 h9) | exact absurd (by omega) ((fitM_n1 (by omega)).1 (fitM_c.1 h9)) | exact absurd (fitM_yes h9 (by omega) rfl) (by assumption))).symm), ht⟩) (fun _ h => by cases h) dX11_productFits_73
          · rw [lcmp_eq] at c_5
            refine lv_iconst (v := 1) hx hb dX11_productFits_68 (by decide +kernel) ?_
            refine lv_goto (tgt := 73) hx hb dX11_productFits_69 (by decide +kernel) ?_
            exact W.zret hx hb hr rfl (fun t ht hW => ⟨_, rfl, (by exact (if_pos (by first | exact fitM_0 (by omega) | exact (fitM_n1 (by omega)).2 (by omega) | exact fitM_c.2 ((fitM_n1 (by omega)).2 (by omega)) | exact fitM_no (by omega) (by omega) rfl (by assumption))).symm), ht⟩) (fun _ h => by cases h) dX11_productFits_73
        · rw [lcmp_eq] at c_4
          try rw [tl_n1] at c_4
          refine lv_lload_n hx hb dX11_productFits_44 rfl (lv_at hl 1 rfl) ?_
          refine lv_ldc2 (v := (-9223372036854775808)) hx hb hown (hts (.constantLong RX11 169 (-9223372036854775808)) (List.mem_of_getElem? (i := 2) rfl)) dX11_productFits_45 ?_
          refine W.lcmp hx hb dX11_productFits_48 ?_
          refine lv_if_eq (tgt := 56) hx hb dX11_productFits_49 (by decide +kernel) (fun c_6 => ?_) (fun c_6 => ?_)
          · rw [lcmp_eq] at c_6
            try rw [tl_min] at c_6
            refine lv_iconst (v := 0) hx hb dX11_productFits_56 (by decide +kernel) ?_
            exact W.zret hx hb hr rfl (fun t ht hW => ⟨_, rfl, (by exact (if_neg (fun h9 => by first | exact absurd (by omega) ((fitM_n1 (by omega)).1 h9) | exact absurd (by omega) ((fitM_n1 (by omega)).1 (fitM_c.1 h9)) | exact absurd (fitM_yes h9 (by omega) rfl) (by assumption))).symm), ht⟩) (fun _ h => by cases h) dX11_productFits_57
          · rw [lcmp_eq] at c_6
            try rw [tl_min] at c_6
            refine lv_iconst (v := 1) hx hb dX11_productFits_52 (by decide +kernel) ?_
            refine lv_goto (tgt := 57) hx hb dX11_productFits_53 (by decide +kernel) ?_
            exact W.zret hx hb hr rfl (fun t ht hW => ⟨_, rfl, (by exact (if_pos (by first | exact fitM_0 (by omega) | exact (fitM_n1 (by omega)).2 (by omega) | exact fitM_c.2 ((fitM_n1 (by omega)).2 (by omega)) | exact fitM_no (by omega) (by omega) rfl (by assumption))).symm), ht⟩) (fun _ h => by cases h) dX11_productFits_57
      · rw [lcmp_eq] at c_3
        try rw [tl_n1] at c_3
        refine lv_lload_n hx hb dX11_productFits_22 rfl (lv_at hl 0 rfl) ?_
        refine lv_ldc2 (v := (-9223372036854775808)) hx hb hown (hts (.constantLong RX11 169 (-9223372036854775808)) (List.mem_of_getElem? (i := 2) rfl)) dX11_productFits_23 ?_
        refine W.lcmp hx hb dX11_productFits_26 ?_
        refine lv_if_eq (tgt := 34) hx hb dX11_productFits_27 (by decide +kernel) (fun c_7 => ?_) (fun c_7 => ?_)
        · rw [lcmp_eq] at c_7
          try rw [tl_min] at c_7
          refine lv_iconst (v := 0) hx hb dX11_productFits_34 (by decide +kernel) ?_
          exact W.zret hx hb hr rfl (fun t ht hW => ⟨_, rfl, (by exact (if_neg (fun h9 => by first | exact absurd (by omega) ((fitM_n1 (by omega)).1 h9) | exact absurd (by omega) ((fitM_n1 (by omega)).1 (fitM_c.1 h9)) | exact absurd (fitM_yes h9 (by omega) rfl) (by assumption))).symm), ht⟩) (fun _ h => by cases h) dX11_productFits_35
        · rw [lcmp_eq] at c_7
          try rw [tl_min] at c_7
          refine lv_iconst (v := 1) hx hb dX11_productFits_30 (by decide +kernel) ?_
          refine lv_goto (tgt := 35) hx hb dX11_productFits_31 (by decide +kernel) ?_
          exact W.zret hx hb hr rfl (fun t ht hW => ⟨_, rfl, (by exact (if_pos (by first | exact fitM_0 (by omega) | exact (fitM_n1 (by omega)).2 (by omega) | exact fitM_c.2 ((fitM_n1 (by omega)).2 (by omega)) | exact fitM_no (by omega) (by omega) rfl (by assumption))).symm), ht⟩) (fun _ h => by cases h) dX11_productFits_35
    · rw [lcmp_eq] at c_2
      try rw [tl_0] at c_2
      refine lv_iconst (v := 1) hx hb dX11_productFits_12 (by decide +kernel) ?_
      exact W.zret hx hb hr rfl (fun t ht hW => ⟨_, rfl, (by exact (if_pos (by first | exact fitM_0 (by omega) | exact (fitM_n1 (by omega)).2 (by omega) | exact fitM_c.2 ((fitM_n1 (by omega)).2 (by omega)) | exact fitM_no (by omega) (by omega) rfl (by assumption))).symm), ht⟩) (fun _ h => by cases h) dX11_productFits_13
theorem dX11_isMuch_0 : decode cX11_isMuch 0 = .ok (.aload_n 0, 1) := by decide +kernel
theorem dX11_isMuch_1 : decode cX11_isMuch 1 = .ok (.getfield 15, 3) := by decide +kernel
theorem dX11_isMuch_11 : decode cX11_isMuch 11 = .ok (.iconst 1, 1) := by decide +kernel
theorem dX11_isMuch_12 : decode cX11_isMuch 12 = .ok (.goto 4, 3) := by decide +kernel
theorem dX11_isMuch_15 : decode cX11_isMuch 15 = .ok (.iconst 0, 1) := by decide +kernel
theorem dX11_isMuch_16 : decode cX11_isMuch 16 = .ok (.ireturn, 1) := by decide +kernel
theorem dX11_isMuch_4 : decode cX11_isMuch 4 = .ok (.iload_n 1, 1) := by decide +kernel
theorem dX11_isMuch_5 : decode cX11_isMuch 5 = .ok (.laload, 1) := by decide +kernel
theorem dX11_isMuch_6 : decode cX11_isMuch 6 = .ok (.lconst 0, 1) := by decide +kernel
theorem dX11_isMuch_7 : decode cX11_isMuch 7 = .ok (.lcmp, 1) := by decide +kernel
theorem dX11_isMuch_8 : decode cX11_isMuch 8 = .ok (.ifCond .ne 7, 3) := by decide +kernel
set_option maxRecDepth 20000 in
theorem in_X11_isMuch_X11 : ∀ w ∈ wsX110, w ∈ wsX11_isMuch := sub_r [2, 3, 4, 5, 6, 7] rfl
set_option maxHeartbeats 4000000 in
set_option maxRecDepth 100000 in
theorem c_X11_isMuch (l : Launch) (D : va_G) (T : Nat → ClassId) (h0 : Nat) (fs0 : List Value) (h1 : Nat) (f1 : Nat → Int64) (x1 : Int32) (e0_3 : fs0[3]? = some (.ref h1)) (hx1 : 0 ≤ x1.toInt ∧ x1.toInt < 676) : Met l yX11_isMuch wsX11_isMuch ({ frames := 0, cells := 0, slots := 0, locals := 0 }) (pR [.ref h0, .int x1] D T [(h0, .inr (8, fs0)), (h1, .inl (T 1, 676, .inr (.inl f1)))]) (vp_Si (fun r => r = if (f1 (x1.toNatClampNeg)).toInt = 0 then 1 else 0)) 0 0 (fun _ => False) := by
  refine Met.ofW (cc := cX11_isMuch) (maxL := 2) (ret := (some .boolean)) (by decide +kernel) rfl ?_
  intro p e s m args below meth c s₁ B hml hv
  obtain ⟨rfl, hP, hE⟩ := hv
  have hx := B.exec
  have hb := B.bytes
  have hr := B.returns
  have hts := atoms_spec (ws := wsX11_isMuch) B.pre
  have hown : s.vm.findClass RX11 = some m.cls := findClass_of_methodNamed B.named
  have hlocks := B.notSynchronized
  have hP : va_P D vwCl [(h0, .inr (8, fs0)), (h1, .inl (T 1, 676, .inr (.inl f1)))] s.heap := hP
  have hl := lv_entry ([.ref h0, .int x1]) (n := 2) (Nat.le_of_ble_eq_true rfl)
  rw [lg_entry_eq]
  generalize (lg_sl ([.ref h0, .int x1]) ++ List.replicate (2 - (lg_sl ([.ref h0, .int x1])).length) Slot.unset).toArray = ls at hl ⊢
  have hl : lv_has ls 2 [(0, .ref h0), (1, .int x1)] := hl
  refine lv_aload_n hx hb dX11_isMuch_0 rfl (lv_at hl 0 rfl) ?_
  refine va_get (D := D) (ci := 8) (v := .ref h1) (C := RX11) (T := TX11) (N := 6) hx hb hts in_X11_isMuch_X11 hown hE.1 hP 0 rfl rfl 3 (by decide +kernel) (hts (.fieldLink RX11 15 "ClauseBook$Worth" "below" "[J") (List.mem_of_getElem? (i := 1) rfl)) (fun _ h9 => h9) e0_3 dX11_isMuch_1 ?_
  refine lv_iload_n hx hb dX11_isMuch_4 rfl (lv_at hl 1 rfl) ?_
  refine va_lald hx hb hE.1 hP 1 1 rfl rfl (by rw [vp_in_iff]; omega) dX11_isMuch_5 ?_
  refine lv_topl (fun z_1 ez_1 => ?_)
  refine lv_lconst (v := 0) hx hb dX11_isMuch_6 (by decide +kernel) ?_
  refine W.lcmp hx hb dX11_isMuch_7 ?_
  refine lv_if_ne (tgt := 15) hx hb dX11_isMuch_8 (by decide +kernel) (fun c_2 => ?_) (fun c_2 => ?_)
  · rw [lcmp_eq] at c_2
    try rw [tl_0] at c_2
    refine lv_iconst (v := 0) hx hb dX11_isMuch_15 (by decide +kernel) ?_
    exact W.zret hx hb hr rfl (fun t ht hW => ⟨_, rfl, (by subst_vars; first | exact (if_pos (by omega)).symm | exact (if_neg (by omega)).symm), ht⟩) (fun _ h => by cases h) dX11_isMuch_16
  · rw [lcmp_eq] at c_2
    try rw [tl_0] at c_2
    refine lv_iconst (v := 1) hx hb dX11_isMuch_11 (by decide +kernel) ?_
    refine lv_goto (tgt := 16) hx hb dX11_isMuch_12 (by decide +kernel) ?_
    exact W.zret hx hb hr rfl (fun t ht hW => ⟨_, rfl, (by subst_vars; first | exact (if_pos (by omega)).symm | exact (if_neg (by omega)).symm), ht⟩) (fun _ h => by cases h) dX11_isMuch_16
theorem dX11_partOf_0 : decode cX11_partOf 0 = .ok (.aload_n 0, 1) := by decide +kernel
theorem dX11_partOf_1 : decode cX11_partOf 1 = .ok (.iload_n 1, 1) := by decide +kernel
theorem dX11_partOf_11 : decode cX11_partOf 11 = .ok (.lreturn, 1) := by decide +kernel
theorem dX11_partOf_12 : decode cX11_partOf 12 = .ok (.iload_n 2, 1) := by decide +kernel
theorem dX11_partOf_13 : decode cX11_partOf 13 = .ok (.ifCond .ne 12, 3) := by decide +kernel
theorem dX11_partOf_16 : decode cX11_partOf 16 = .ok (.aload_n 0, 1) := by decide +kernel
theorem dX11_partOf_17 : decode cX11_partOf 17 = .ok (.getfield 11, 3) := by decide +kernel
theorem dX11_partOf_2 : decode cX11_partOf 2 = .ok (.invokevirtual 34, 3) := by decide +kernel
theorem dX11_partOf_20 : decode cX11_partOf 20 = .ok (.iload_n 1, 1) := by decide +kernel
theorem dX11_partOf_21 : decode cX11_partOf 21 = .ok (.laload, 1) := by decide +kernel
theorem dX11_partOf_22 : decode cX11_partOf 22 = .ok (.goto 9, 3) := by decide +kernel
theorem dX11_partOf_25 : decode cX11_partOf 25 = .ok (.aload_n 0, 1) := by decide +kernel
theorem dX11_partOf_26 : decode cX11_partOf 26 = .ok (.getfield 15, 3) := by decide +kernel
theorem dX11_partOf_29 : decode cX11_partOf 29 = .ok (.iload_n 1, 1) := by decide +kernel
theorem dX11_partOf_30 : decode cX11_partOf 30 = .ok (.laload, 1) := by decide +kernel
theorem dX11_partOf_31 : decode cX11_partOf 31 = .ok (.lreturn, 1) := by decide +kernel
theorem dX11_partOf_5 : decode cX11_partOf 5 = .ok (.ifCond .eq 7, 3) := by decide +kernel
theorem dX11_partOf_8 : decode cX11_partOf 8 = .ok (.ldc2_w 38, 3) := by decide +kernel
set_option maxRecDepth 20000 in
theorem ggX11_partOf_X11_isMuch : GoodIn wsX11_partOf wsX11_isMuch := goodIn_r _ [8, 3, 9, 10, 11, 12, 13, 14] rfl (by decide +kernel)
set_option maxRecDepth 20000 in
theorem gX11_partOf_X11_isMuch : GoodIn wsX11_partOf (wsV RX11 34 RX11 yX11_isMuch wsX11_isMuch) := goodIn_app (goodIn_r _ [4, 5, 6, 7] rfl (by decide +kernel)) ggX11_partOf_X11_isMuch
theorem hv_X11_isMuch : yX11_isMuch.cls = RX11 ∧ yX11_isMuch.cls ≠ "java/lang/invoke/MethodHandle" ∧ yX11_isMuch.cls ≠ "java/lang/invoke/VarHandle" ∧ (parseMethodDescriptor yX11_isMuch.desc).map (fun d => d.parameters.length) = some 1 := by decide +kernel
set_option maxRecDepth 20000 in
theorem in_X11_partOf_X11 : ∀ w ∈ wsX110, w ∈ wsX11_partOf := sub_r [9, 10, 11, 12, 13, 14] rfl
set_option maxHeartbeats 4000000 in
set_option maxRecDepth 100000 in
theorem c_X11_partOf (l : Launch) (D : va_G) (T : Nat → ClassId) (h0 : Nat) (fs0 : List Value) (h1 : Nat) (f1 : Nat → Int64) (h2 : Nat) (f2 : Nat → Int64) (x1 : Int32) (x2 : Int32) (e0_3 : fs0[3]? = some (.ref h1)) (e0_2 : fs0[2]? = some (.ref h2)) (hx1 : 0 ≤ x1.toInt ∧ x1.toInt < 676) : Met l yX11_partOf wsX11_partOf ({ frames := 1, cells := 0, slots := 0, locals := 21 }) (pR [.ref h0, .int x1, .int x2] D T [(h0, .inr (8, fs0)), (h1, .inl (T 1, 676, .inr (.inl f1))), (h2, .inl (T 1, 676, .inr (.inl f2)))]) (vp_Sl (fun r => partW (f2 (x1.toNatClampNeg), f1 (x1.toNatClampNeg)) x2 r)) 0 0 (fun _ => False) := by
  refine Met.ofW (cc := cX11_partOf) (maxL := 3) (ret := (some .long)) (by decide +kernel) rfl ?_
  intro p e s m args below meth c s₁ B hml hv
  obtain ⟨rfl, hP, hE⟩ := hv
  have hx := B.exec
  have hb := B.bytes
  have hr := B.returns
  have hts := atoms_spec (ws := wsX11_partOf) B.pre
  have hown : s.vm.findClass RX11 = some m.cls := findClass_of_methodNamed B.named
  have hlocks := B.notSynchronized
  have hP : va_P D vwCl [(h0, .inr (8, fs0)), (h1, .inl (T 1, 676, .inr (.inl f1))), (h2, .inl (T 1, 676, .inr (.inl f2)))] s.heap := hP
  have hl := lv_entry ([.ref h0, .int x1, .int x2]) (n := 3) (Nat.le_of_ble_eq_true rfl)
  rw [lg_entry_eq]
  generalize (lg_sl ([.ref h0, .int x1, .int x2]) ++ List.replicate (3 - (lg_sl ([.ref h0, .int x1, .int x2])).length) Slot.unset).toArray = ls at hl ⊢
  have hl : lv_has ls 3 [(0, .ref h0), (1, .int x1), (2, .int x2)] := hl
  refine lv_aload_n hx hb dX11_partOf_0 rfl (lv_at hl 0 rfl) ?_
  refine lv_iload_n hx hb dX11_partOf_1 rfl (lv_at hl 1 rfl) ?_
  refine vp_callSi (W.runV (As := [.int x1]) (rest := []) ⟨hx, hb, hml, hown, hts⟩ (c_X11_isMuch l D T h0 fs0 h1 f1 x1 e0_3 (by first | decide | omega)) (cwV 1 hts gX11_partOf_X11_isMuch rfl rfl rfl hv_X11_isMuch ⟨Nat.le_of_ble_eq_true rfl, Nat.le_of_ble_eq_true rfl⟩) (pR_V (q := (RX11, TX11, 6)) (ci := 8) (q0 := 0) hP hE rfl rfl [0, 1] rfl) rfl rfl hl.1 rfl (lv_room (Nat.le_of_ble_eq_true rfl)) dX11_partOf_2 ⟨Nat.le_of_ble_eq_true rfl, Nat.le_of_ble_eq_true rfl⟩) (fun r_1 hr_1 => ?_)
  rcases bool_post hr_1 with ⟨c_2, rfl⟩ | ⟨c_2, rfl⟩
  · refine lv_if_eq (tgt := 12) hx hb dX11_partOf_5 (by decide +kernel) (fun c9 => absurd c9 (by decide +kernel)) (fun _ => ?_)
    refine lv_ldc2 (v := (-4611686018427387909)) hx hb hown (hts (.constantLong RX11 38 (-4611686018427387909)) (List.mem_of_getElem? (i := 1) rfl)) dX11_partOf_8 ?_
    exact W.lret hx hb hr (fun t ht hW => ⟨_, rfl, (Or.inl ⟨(show (f1 (x1.toNatClampNeg)).toInt = 0 from by omega), (by decide +kernel)⟩), ht⟩) (fun _ h => by cases h) dX11_partOf_11
  · refine lv_if_eq (tgt := 12) hx hb dX11_partOf_5 (by decide +kernel) (fun _ => ?_) (fun c9 => absurd c9 (by decide +kernel))
    refine lv_iload_n hx hb dX11_partOf_12 rfl (lv_at hl 2 rfl) ?_
    refine lv_if_ne (tgt := 25) hx hb dX11_partOf_13 (by decide +kernel) (fun c_3 => ?_) (fun c_3 => ?_)
    · rw [fa_eq] at c_3
      try rw [ti_0] at c_3
      refine lv_aload_n hx hb dX11_partOf_25 rfl (lv_at hl 0 rfl) ?_
      refine va_get (D := D) (ci := 8) (v := .ref h1) (C := RX11) (T := TX11) (N := 6) hx hb hts in_X11_partOf_X11 hown hE.1 hP 0 rfl rfl 3 (by decide +kernel) (hts (.fieldLink RX11 15 "ClauseBook$Worth" "below" "[J") (List.mem_of_getElem? (i := 3) rfl)) (fun _ h9 => h9) e0_3 dX11_partOf_26 ?_
      refine lv_iload_n hx hb dX11_partOf_29 rfl (lv_at hl 1 rfl) ?_
      refine va_lald hx hb hE.1 hP 1 1 rfl rfl (by rw [vp_in_iff]; omega) dX11_partOf_30 ?_
      refine lv_topl (fun z_4 ez_4 => ?_)
      exact W.lret hx hb hr (fun t ht hW => ⟨_, rfl, (Or.inr ⟨(show ¬ (f1 (x1.toNatClampNeg)).toInt = 0 from by omega), Or.inr ⟨(by omega), ez_4⟩⟩), ht⟩) (fun _ h => by cases h) dX11_partOf_31
    · rw [fa_eq] at c_3
      try rw [ti_0] at c_3
      refine lv_aload_n hx hb dX11_partOf_16 rfl (lv_at hl 0 rfl) ?_
      refine va_get (D := D) (ci := 8) (v := .ref h2) (C := RX11) (T := TX11) (N := 6) hx hb hts in_X11_partOf_X11 hown hE.1 hP 0 rfl rfl 2 (by decide +kernel) (hts (.fieldLink RX11 11 "ClauseBook$Worth" "above" "[J") (List.mem_of_getElem? (i := 2) rfl)) (fun _ h9 => h9) e0_2 dX11_partOf_17 ?_
      refine lv_iload_n hx hb dX11_partOf_20 rfl (lv_at hl 1 rfl) ?_
      refine va_lald hx hb hE.1 hP 2 1 rfl rfl (by rw [vp_in_iff]; omega) dX11_partOf_21 ?_
      refine lv_topl (fun z_5 ez_5 => ?_)
      refine lv_goto (tgt := 31) hx hb dX11_partOf_22 (by decide +kernel) ?_
      exact W.lret hx hb hr (fun t ht hW => ⟨_, rfl, (Or.inr ⟨(show ¬ (f1 (x1.toNatClampNeg)).toInt = 0 from by omega), Or.inl ⟨(by omega), ez_5⟩⟩), ht⟩) (fun _ h => by cases h) dX11_partOf_31
theorem dX11_assign_0 : decode cX11_assign 0 = .ok (.aload_n 0, 1) := by decide +kernel
theorem dX11_assign_1 : decode cX11_assign 1 = .ok (.getfield 11, 3) := by decide +kernel
theorem dX11_assign_11 : decode cX11_assign 11 = .ok (.iload_n 1, 1) := by decide +kernel
theorem dX11_assign_12 : decode cX11_assign 12 = .ok (.lload 4, 2) := by decide +kernel
theorem dX11_assign_14 : decode cX11_assign 14 = .ok (.lastore, 1) := by decide +kernel
theorem dX11_assign_15 : decode cX11_assign 15 = .ok (.return_, 1) := by decide +kernel
theorem dX11_assign_4 : decode cX11_assign 4 = .ok (.iload_n 1, 1) := by decide +kernel
theorem dX11_assign_5 : decode cX11_assign 5 = .ok (.lload_n 2, 1) := by decide +kernel
theorem dX11_assign_6 : decode cX11_assign 6 = .ok (.lastore, 1) := by decide +kernel
theorem dX11_assign_7 : decode cX11_assign 7 = .ok (.aload_n 0, 1) := by decide +kernel
theorem dX11_assign_8 : decode cX11_assign 8 = .ok (.getfield 15, 3) := by decide +kernel
set_option maxRecDepth 20000 in
theorem in_X11_assign_X11 : ∀ w ∈ wsX110, w ∈ wsX11_assign := sub_r [3, 4, 5, 6, 7, 8] rfl
set_option maxHeartbeats 4000000 in
set_option maxRecDepth 100000 in
theorem c_X11_assign (l : Launch) (D : va_G) (T : Nat → ClassId) (sz : Nat) (h0 : Nat) (p0 : Nat) (p1 : Nat) (v0 : Value) (v1 : Value) (v4 : Value) (n : Int32) (f0 : Nat → Int64) (f1 : Nat → Int64) (x1 : Int32) (x2 : Int64) (x3 : Int64) (hx1 : 0 ≤ x1.toInt ∧ x1.toInt < 676) : Met l yX11_assign wsX11_assign ({ frames := 0, cells := 0, slots := 0, locals := 0 }) (pW [.ref h0, .int x1, .long x2, .long x3] D T [(h0, .inr (8, [v0, v1, .ref p0, .ref p1, v4, .int n])), (p0, .inl (T 1, 676, .inr (.inl f0))), (p1, .inl (T 1, 676, .inr (.inl f1)))] sz) (va_Qv (fun (u : (Nat → Int64) × (Nat → Int64)) => u.1 = vp_updL f0 (x1.toNatClampNeg) ((x2, x3)).1 ∧ u.2 = vp_updL f1 (x1.toNatClampNeg) ((x2, x3)).2) (bW D (va_A [(h0, .inr (8, [v0, v1, .ref p0, .ref p1, v4, .int n])), (p0, .inl (T 1, 676, .inr (.inl f0))), (p1, .inl (T 1, 676, .inr (.inl f1)))] sz) (fun (u : (Nat → Int64) × (Nat → Int64)) => [(h0, .inr (8, [v0, v1, .ref p0, .ref p1, v4, .int n])), (p0, .inl (T 1, 676, .inr (.inl u.1))), (p1, .inl (T 1, 676, .inr (.inl u.2)))])) (va_A [(h0, .inr (8, [v0, v1, .ref p0, .ref p1, v4, .int n])), (p0, .inl (T 1, 676, .inr (.inl f0))), (p1, .inl (T 1, 676, .inr (.inl f1)))] sz)) 0 0 (va_A [(h0, .inr (8, [v0, v1, .ref p0, .ref p1, v4, .int n])), (p0, .inl (T 1, 676, .inr (.inl f0))), (p1, .inl (T 1, 676, .inr (.inl f1)))] sz) := by
  refine Met.ofW (cc := cX11_assign) (maxL := 6) (ret := none) (by decide +kernel) rfl ?_
  intro p e s m args below meth c s₁ B hml hv
  obtain ⟨rfl, hsz, hP, hE, hD0⟩ := hv
  have hx := B.exec
  have hb := B.bytes
  have hr := B.returns
  have hts := atoms_spec (ws := wsX11_assign) B.pre
  have hown : s.vm.findClass RX11 = some m.cls := findClass_of_methodNamed B.named
  have hlocks := B.notSynchronized
  subst hsz
  have hD := hD0.self (sz := s.heap.size)
  generalize hAe : va_A [(h0, .inr (8, [v0, v1, .ref p0, .ref p1, v4, .int n])), (p0, .inl (T 1, 676, .inr (.inl f0))), (p1, .inl (T 1, 676, .inr (.inl f1)))] s.heap.size = A at hD ⊢
  have hA : ∀ q : Nat, s.heap.size ≤ q → A q := fun q h => by rw [← hAe]; exact Or.inr h
  have hS : va_S A s.heap s.heap [] := va_S.rf
  have hP : va_P D vwCl [(h0, .inr (8, [v0, v1, .ref p0, .ref p1, v4, .int n])), (p0, .inl (T 1, 676, .inr (.inl f0))), (p1, .inl (T 1, 676, .inr (.inl f1)))] s.heap := hP
  have hl := lv_entry ([.ref h0, .int x1, .long x2, .long x3]) (n := 6) (Nat.le_of_ble_eq_true rfl)
  rw [lg_entry_eq]
  generalize (lg_sl ([.ref h0, .int x1, .long x2, .long x3]) ++ List.replicate (6 - (lg_sl ([.ref h0, .int x1, .long x2, .long x3])).length) Slot.unset).toArray = ls at hl ⊢
  have hl : lv_has ls 6 [(0, .ref h0), (1, .int x1), (2, .long x2), (4, .long x3)] := hl
  clear hD0
  refine lv_aload_n hx hb dX11_assign_0 rfl (lv_at hl 0 rfl) ?_
  refine va_get (D := D) (ci := 8) (v := .ref p0) (C := RX11) (T := TX11) (N := 6) hx hb hts in_X11_assign_X11 hown hE.1 hP 0 rfl rfl 2 (by decide +kernel) (hts (.fieldLink RX11 11 "ClauseBook$Worth" "above" "[J") (List.mem_of_getElem? (i := 1) rfl)) (fun _ h9 => h9) rfl dX11_assign_1 ?_
  refine lv_iload_n hx hb dX11_assign_4 rfl (lv_at hl 1 rfl) ?_
  refine lv_lload_n hx hb dX11_assign_5 rfl (lv_at hl 2 rfl) ?_
  refine va_last hx hb hE.1 hP hD hS 1 1 rfl rfl (by rw [vp_in_iff]; omega) dX11_assign_6 (fun H locs hP hD hS => ?_)
  obtain ⟨hP, hD⟩ := wPD [(h0, .inr (8, [v0, v1, .ref p0, .ref p1, v4, .int n])), (p0, .inl (T 1, 676, .inr (.inl (vp_updL f0 (x1.toNatClampNeg) x2)))), (p1, .inl (T 1, 676, .inr (.inl f1)))] hP hD rfl
  refine lv_aload_n hx hb dX11_assign_7 rfl (lv_at hl 0 rfl) ?_
  refine va_get (D := D) (ci := 8) (v := .ref p1) (C := RX11) (T := TX11) (N := 6) hx hb hts in_X11_assign_X11 hown hE.1 hP 0 rfl rfl 3 (by decide +kernel) (hts (.fieldLink RX11 15 "ClauseBook$Worth" "below" "[J") (List.mem_of_getElem? (i := 2) rfl)) (fun _ h9 => h9) rfl dX11_assign_8 ?_
  refine lv_iload_n hx hb dX11_assign_11 rfl (lv_at hl 1 rfl) ?_
  refine lv_lload hx hb dX11_assign_12 (lv_at hl 3 rfl) ?_
  refine va_last hx hb hE.1 hP hD hS 2 1 rfl rfl (by rw [vp_in_iff]; omega) dX11_assign_14 (fun H locs hP hD hS => ?_)
  obtain ⟨hP, hD⟩ := wPD [(h0, .inr (8, [v0, v1, .ref p0, .ref p1, v4, .int n])), (p0, .inl (T 1, 676, .inr (.inl (vp_updL f0 (x1.toNatClampNeg) x2)))), (p1, .inl (T 1, 676, .inr (.inl (vp_updL f1 (x1.toNatClampNeg) x3))))] hP hD rfl
  exact W.vret hx hb hr (fun t ht hW => ⟨⟨((vp_updL f0 (x1.toNatClampNeg) x2), (vp_updL f1 (x1.toNatClampNeg) x3)), rfl, ⟨rfl, rfl⟩, by rw [ht]; exact hP.sub [0, 1, 2] rfl, hD.sub [0, 1, 2] (by decide +kernel) rfl⟩, hS.F ht⟩) hS.2.2 dX11_assign_15
theorem dX11_repeat_0 : decode cX11_repeat 0 = .ok (.aload_n 0, 1) := by decide +kernel
theorem dX11_repeat_1 : decode cX11_repeat 1 = .ok (.iload_n 1, 1) := by decide +kernel
theorem dX11_repeat_12 : decode cX11_repeat 12 = .ok (.iload_n 2, 1) := by decide +kernel
theorem dX11_repeat_13 : decode cX11_repeat 13 = .ok (.laload, 1) := by decide +kernel
theorem dX11_repeat_14 : decode cX11_repeat 14 = .ok (.invokevirtual 67, 3) := by decide +kernel
theorem dX11_repeat_17 : decode cX11_repeat 17 = .ok (.return_, 1) := by decide +kernel
theorem dX11_repeat_2 : decode cX11_repeat 2 = .ok (.aload_n 0, 1) := by decide +kernel
theorem dX11_repeat_3 : decode cX11_repeat 3 = .ok (.getfield 11, 3) := by decide +kernel
theorem dX11_repeat_6 : decode cX11_repeat 6 = .ok (.iload_n 2, 1) := by decide +kernel
theorem dX11_repeat_7 : decode cX11_repeat 7 = .ok (.laload, 1) := by decide +kernel
theorem dX11_repeat_8 : decode cX11_repeat 8 = .ok (.aload_n 0, 1) := by decide +kernel
theorem dX11_repeat_9 : decode cX11_repeat 9 = .ok (.getfield 15, 3) := by decide +kernel
set_option maxRecDepth 20000 in
theorem ggX11_repeat_X11_assign : GoodIn wsX11_repeat wsX11_assign := goodIn_r _ [7, 1, 2, 8, 9, 10, 11, 12, 13] rfl (by decide +kernel)
set_option maxRecDepth 20000 in
theorem gX11_repeat_X11_assign : GoodIn wsX11_repeat (wsV RX11 67 RX11 yX11_assign wsX11_assign) := goodIn_app (goodIn_r _ [3, 4, 5, 6] rfl (by decide +kernel)) ggX11_repeat_X11_assign
theorem hv_X11_assign : yX11_assign.cls = RX11 ∧ yX11_assign.cls ≠ "java/lang/invoke/MethodHandle" ∧ yX11_assign.cls ≠ "java/lang/invoke/VarHandle" ∧ (parseMethodDescriptor yX11_assign.desc).map (fun d => d.parameters.length) = some 3 := by decide +kernel
set_option maxRecDepth 20000 in
theorem in_X11_repeat_X11 : ∀ w ∈ wsX110, w ∈ wsX11_repeat := sub_r [8, 9, 10, 11, 12, 13] rfl
set_option maxHeartbeats 4000000 in
set_option maxRecDepth 100000 in
theorem c_X11_repeat (l : Launch) (D : va_G) (T : Nat → ClassId) (sz : Nat) (h0 : Nat) (p0 : Nat) (p1 : Nat) (v0 : Value) (v1 : Value) (v4 : Value) (n : Int32) (f0 : Nat → Int64) (f1 : Nat → Int64) (x1 : Int32) (x2 : Int32) (hx1 : 0 ≤ x1.toInt ∧ x1.toInt < 676) (hx2 : 0 ≤ x2.toInt ∧ x2.toInt < 676) : Met l yX11_repeat wsX11_repeat ({ frames := 1, cells := 0, slots := 0, locals := 25 }) (pW [.ref h0, .int x1, .int x2] D T [(h0, .inr (8, [v0, v1, .ref p0, .ref p1, v4, .int n])), (p0, .inl (T 1, 676, .inr (.inl f0))), (p1, .inl (T 1, 676, .inr (.inl f1)))] sz) (va_Qv (fun (u : (Nat → Int64) × (Nat → Int64)) => u.1 = vp_updL f0 (x1.toNatClampNeg) (((f0 (x2.toNatClampNeg)), (f1 (x2.toNatClampNeg)))).1 ∧ u.2 = vp_updL f1 (x1.toNatClampNeg) (((f0 (x2.toNatClampNeg)), (f1 (x2.toNatClampNeg)))).2) (bW D (va_A [(h0, .inr (8, [v0, v1, .ref p0, .ref p1, v4, .int n])), (p0, .inl (T 1, 676, .inr (.inl f0))), (p1, .inl (T 1, 676, .inr (.inl f1)))] sz) (fun (u : (Nat → Int64) × (Nat → Int64)) => [(h0, .inr (8, [v0, v1, .ref p0, .ref p1, v4, .int n])), (p0, .inl (T 1, 676, .inr (.inl u.1))), (p1, .inl (T 1, 676, .inr (.inl u.2)))])) (va_A [(h0, .inr (8, [v0, v1, .ref p0, .ref p1, v4, .int n])), (p0, .inl (T 1, 676, .inr (.inl f0))), (p1, .inl (T 1, 676, .inr (.inl f1)))] sz)) 0 0 (va_A [(h0, .inr (8, [v0, v1, .ref p0, .ref p1, v4, .int n])), (p0, .inl (T 1, 676, .inr (.inl f0))), (p1, .inl (T 1, 676, .inr (.inl f1)))] sz) := by
  refine Met.ofW (cc := cX11_repeat) (maxL := 3) (ret := none) (by decide +kernel) rfl ?_
  intro p e s m args below meth c s₁ B hml hv
  obtain ⟨rfl, hsz, hP, hE, hD0⟩ := hv
  have hx := B.exec
  have hb := B.bytes
  have hr := B.returns
  have hts := atoms_spec (ws := wsX11_repeat) B.pre
  have hown : s.vm.findClass RX11 = some m.cls := findClass_of_methodNamed B.named
  have hlocks := B.notSynchronized
  subst hsz
  have hD := hD0.self (sz := s.heap.size)
  generalize hAe : va_A [(h0, .inr (8, [v0, v1, .ref p0, .ref p1, v4, .int n])), (p0, .inl (T 1, 676, .inr (.inl f0))), (p1, .inl (T 1, 676, .inr (.inl f1)))] s.heap.size = A at hD ⊢
  have hA : ∀ q : Nat, s.heap.size ≤ q → A q := fun q h => by rw [← hAe]; exact Or.inr h
  have hS : va_S A s.heap s.heap [] := va_S.rf
  have hP : va_P D vwCl [(h0, .inr (8, [v0, v1, .ref p0, .ref p1, v4, .int n])), (p0, .inl (T 1, 676, .inr (.inl f0))), (p1, .inl (T 1, 676, .inr (.inl f1)))] s.heap := hP
  have hl := lv_entry ([.ref h0, .int x1, .int x2]) (n := 3) (Nat.le_of_ble_eq_true rfl)
  rw [lg_entry_eq]
  generalize (lg_sl ([.ref h0, .int x1, .int x2]) ++ List.replicate (3 - (lg_sl ([.ref h0, .int x1, .int x2])).length) Slot.unset).toArray = ls at hl ⊢
  have hl : lv_has ls 3 [(0, .ref h0), (1, .int x1), (2, .int x2)] := hl
  clear hD0
  refine lv_aload_n hx hb dX11_repeat_0 rfl (lv_at hl 0 rfl) ?_
  refine lv_iload_n hx hb dX11_repeat_1 rfl (lv_at hl 1 rfl) ?_
  refine lv_aload_n hx hb dX11_repeat_2 rfl (lv_at hl 0 rfl) ?_
  refine va_get (D := D) (ci := 8) (v := .ref p0) (C := RX11) (T := TX11) (N := 6) hx hb hts in_X11_repeat_X11 hown hE.1 hP 0 rfl rfl 2 (by decide +kernel) (hts (.fieldLink RX11 11 "ClauseBook$Worth" "above" "[J") (List.mem_of_getElem? (i := 1) rfl)) (fun _ h9 => h9) rfl dX11_repeat_3 ?_
  refine lv_iload_n hx hb dX11_repeat_6 rfl (lv_at hl 2 rfl) ?_
  refine va_lald hx hb hE.1 hP 1 1 rfl rfl (by rw [vp_in_iff]; omega) dX11_repeat_7 ?_
  refine lv_topl (fun z_1 ez_1 => ?_)
  refine lv_aload_n hx hb dX11_repeat_8 rfl (lv_at hl 0 rfl) ?_
  refine va_get (D := D) (ci := 8) (v := .ref p1) (C := RX11) (T := TX11) (N := 6) hx hb hts in_X11_repeat_X11 hown hE.1 hP 0 rfl rfl 3 (by decide +kernel) (hts (.fieldLink RX11 15 "ClauseBook$Worth" "below" "[J") (List.mem_of_getElem? (i := 2) rfl)) (fun _ h9 => h9) rfl dX11_repeat_9 ?_
  refine lv_iload_n hx hb dX11_repeat_12 rfl (lv_at hl 2 rfl) ?_
  refine va_lald hx hb hE.1 hP 2 1 rfl rfl (by rw [vp_in_iff]; omega) dX11_repeat_13 ?_
  refine lv_topl (fun z_2 ez_2 => ?_)
  have hFc := va_free (wc := [(h0, .inr (8, [v0, v1, .ref p0, .ref p1, v4, .int n])), (p0, .inl (T 1, 676, .inr (.inl f0))), (p1, .inl (T 1, 676, .inr (.inl f1)))]) hD hS hA [0, 1, 2] rfl
  refine va_callv (va_runV (As := [.int x1, .long z_1, .long z_2]) (rest := []) ⟨hx, hb, hml, hown, hts⟩ (c_X11_assign l D T _ h0 p0 p1 (v0) (v1) (v4) n f0 f1 x1 z_1 z_2 (by first | decide | omega)) (cwV 3 hts gX11_repeat_X11_assign rfl rfl rfl hv_X11_assign ⟨Nat.le_of_ble_eq_true rfl, Nat.le_of_ble_eq_true rfl⟩) (pW_V (q := (RX11, TX11, 6)) (ci := 8) (q0 := 0) hP hE hD rfl rfl [0, 1, 2] (by decide +kernel) rfl rfl) rfl rfl hl.1 rfl (lv_room (Nat.le_of_ble_eq_true rfl)) dX11_repeat_14 ⟨Nat.le_of_ble_eq_true rfl, Nat.le_of_ble_eq_true rfl⟩) hS (fun q _ h => hFc q h) hFc (fun u_4 t H1 locs ht hvm hr_3 hB hz1 hk1 hS => ?_)
  obtain ⟨f_5, f_6⟩ := u_4
  have hrd1 : f_5 = vp_updL f0 (x1.toNatClampNeg) ((z_1, z_2)).1 := hr_3.1
  have hrd2 : f_6 = vp_updL f1 (x1.toNatClampNeg) ((z_1, z_2)).2 := hr_3.2
  obtain ⟨hP1, hD1⟩ := hB
  rw [ht] at hP1
  obtain ⟨hP, hD⟩ := va_repl [(h0, .inr (8, [v0, v1, .ref p0, .ref p1, v4, .int n])), (p0, .inl (T 1, 676, .inr (.inl f_5))), (p1, .inl (T 1, 676, .inr (.inl f_6)))] hP hD [0, 1, 2] [0, 1, 2] rfl (by decide +kernel) rfl rfl rfl hk1 hP1
  clear hP1 hD1 hFc
  generalize H1 = H at hP hS ⊢
  exact W.vret hx hb hr (fun t ht hW => ⟨⟨(f_5, f_6), rfl, ⟨hrd1.trans (congrArg (fun q9 : Int64 × Int64 => vp_updL f0 (x1.toNatClampNeg) q9.1) (show (z_1, z_2) = ((f0 (x2.toNatClampNeg)), (f1 (x2.toNatClampNeg))) from (by rw [ez_1, ez_2]))), hrd2.trans (congrArg (fun q9 : Int64 × Int64 => vp_updL f1 (x1.toNatClampNeg) q9.2) (show (z_1, z_2) = ((f0 (x2.toNatClampNeg)), (f1 (x2.toNatClampNeg))) from (by rw [ez_1, ez_2])))⟩, by rw [ht]; exact hP.sub [0, 1, 2] rfl, hD.sub [0, 1, 2] (by decide +kernel) rfl⟩, hS.F ht⟩) hS.2.2 dX11_repeat_17
theorem dX11_multiply_0 : decode cX11_multiply 0 = .ok (.aload_n 0, 1) := by decide +kernel
theorem dX11_multiply_1 : decode cX11_multiply 1 = .ok (.getfield 11, 3) := by decide +kernel
theorem dX11_multiply_12 : decode cX11_multiply 12 = .ok (.iload_n 2, 1) := by decide +kernel
theorem dX11_multiply_13 : decode cX11_multiply 13 = .ok (.laload, 1) := by decide +kernel
theorem dX11_multiply_14 : decode cX11_multiply 14 = .ok (.lstore 9, 2) := by decide +kernel
theorem dX11_multiply_16 : decode cX11_multiply 16 = .ok (.lload 9, 2) := by decide +kernel
theorem dX11_multiply_18 : decode cX11_multiply 18 = .ok (.lconst 0, 1) := by decide +kernel
theorem dX11_multiply_19 : decode cX11_multiply 19 = .ok (.lcmp, 1) := by decide +kernel
theorem dX11_multiply_20 : decode cX11_multiply 20 = .ok (.ifCond .eq 22, 3) := by decide +kernel
theorem dX11_multiply_23 : decode cX11_multiply 23 = .ok (.lload 7, 2) := by decide +kernel
theorem dX11_multiply_25 : decode cX11_multiply 25 = .ok (.lload_n 3, 1) := by decide +kernel
theorem dX11_multiply_26 : decode cX11_multiply 26 = .ok (.invokestatic 147, 3) := by decide +kernel
theorem dX11_multiply_29 : decode cX11_multiply 29 = .ok (.ifCond .eq 13, 3) := by decide +kernel
theorem dX11_multiply_32 : decode cX11_multiply 32 = .ok (.lload 9, 2) := by decide +kernel
theorem dX11_multiply_34 : decode cX11_multiply 34 = .ok (.lload 5, 2) := by decide +kernel
theorem dX11_multiply_36 : decode cX11_multiply 36 = .ok (.invokestatic 147, 3) := by decide +kernel
theorem dX11_multiply_39 : decode cX11_multiply 39 = .ok (.ifCond .ne 13, 3) := by decide +kernel
theorem dX11_multiply_4 : decode cX11_multiply 4 = .ok (.iload_n 2, 1) := by decide +kernel
theorem dX11_multiply_42 : decode cX11_multiply 42 = .ok (.aload_n 0, 1) := by decide +kernel
theorem dX11_multiply_43 : decode cX11_multiply 43 = .ok (.iload_n 1, 1) := by decide +kernel
theorem dX11_multiply_44 : decode cX11_multiply 44 = .ok (.lconst 0, 1) := by decide +kernel
theorem dX11_multiply_45 : decode cX11_multiply 45 = .ok (.lconst 0, 1) := by decide +kernel
theorem dX11_multiply_46 : decode cX11_multiply 46 = .ok (.invokevirtual 67, 3) := by decide +kernel
theorem dX11_multiply_49 : decode cX11_multiply 49 = .ok (.goto 17, 3) := by decide +kernel
theorem dX11_multiply_5 : decode cX11_multiply 5 = .ok (.laload, 1) := by decide +kernel
theorem dX11_multiply_52 : decode cX11_multiply 52 = .ok (.aload_n 0, 1) := by decide +kernel
theorem dX11_multiply_53 : decode cX11_multiply 53 = .ok (.iload_n 1, 1) := by decide +kernel
theorem dX11_multiply_54 : decode cX11_multiply 54 = .ok (.lload 7, 2) := by decide +kernel
theorem dX11_multiply_56 : decode cX11_multiply 56 = .ok (.lload_n 3, 1) := by decide +kernel
theorem dX11_multiply_57 : decode cX11_multiply 57 = .ok (.lmul, 1) := by decide +kernel
theorem dX11_multiply_58 : decode cX11_multiply 58 = .ok (.lload 9, 2) := by decide +kernel
theorem dX11_multiply_6 : decode cX11_multiply 6 = .ok (.lstore 7, 2) := by decide +kernel
theorem dX11_multiply_60 : decode cX11_multiply 60 = .ok (.lload 5, 2) := by decide +kernel
theorem dX11_multiply_62 : decode cX11_multiply 62 = .ok (.lmul, 1) := by decide +kernel
theorem dX11_multiply_63 : decode cX11_multiply 63 = .ok (.invokevirtual 141, 3) := by decide +kernel
theorem dX11_multiply_66 : decode cX11_multiply 66 = .ok (.return_, 1) := by decide +kernel
theorem dX11_multiply_8 : decode cX11_multiply 8 = .ok (.aload_n 0, 1) := by decide +kernel
theorem dX11_multiply_9 : decode cX11_multiply 9 = .ok (.getfield 15, 3) := by decide +kernel
set_option maxRecDepth 20000 in
theorem ggX11_multiply_X11_assign : GoodIn wsX11_multiply wsX11_assign := goodIn_r _ [12, 1, 2, 21, 22, 23, 24, 25, 26] rfl (by decide +kernel)
set_option maxRecDepth 20000 in
theorem ggX11_multiply_X11_productFits : GoodIn wsX11_multiply wsX11_productFits := goodIn_r _ [6, 7, 8] rfl (by decide +kernel)
set_option maxRecDepth 20000 in
theorem ggX11_multiply_X11_reduce : GoodIn wsX11_multiply wsX11_reduce := goodIn_r _ [16, 1, 2, 17, 18, 19, 20, 21, 22, 23, 24, 25, 26] rfl (by decide +kernel)
set_option maxRecDepth 20000 in
theorem gX11_multiply_X11_assign : GoodIn wsX11_multiply (wsV RX11 67 RX11 yX11_assign wsX11_assign) := goodIn_app (goodIn_r _ [9, 10, 11, 5] rfl (by decide +kernel)) ggX11_multiply_X11_assign
set_option maxRecDepth 20000 in
theorem gX11_multiply_X11_productFits : GoodIn wsX11_multiply (va_wsS RX11 147 yX11_productFits wsX11_productFits) := goodIn_app (goodIn_of _ (by decide +kernel)) ggX11_multiply_X11_productFits
set_option maxRecDepth 20000 in
theorem gX11_multiply_X11_reduce : GoodIn wsX11_multiply (wsV RX11 141 RX11 yX11_reduce wsX11_reduce) := goodIn_app (goodIn_r _ [13, 14, 15, 5] rfl (by decide +kernel)) ggX11_multiply_X11_reduce
theorem hs_X11_productFits : yX11_productFits.cls ≠ "java/lang/invoke/MethodHandle" ∧ yX11_productFits.cls ≠ "java/lang/invoke/VarHandle" ∧ (parseMethodDescriptor yX11_productFits.desc).map (fun d => d.parameters.length) = some 2 := by decide +kernel
set_option maxRecDepth 20000 in
theorem in_X11_multiply_X11 : ∀ w ∈ wsX110, w ∈ wsX11_multiply := sub_r [21, 22, 23, 24, 25, 26] rfl
set_option maxHeartbeats 4000000 in
set_option maxRecDepth 100000 in
theorem c_X11_multiply (l : Launch) (D : va_G) (T : Nat → ClassId) (sz : Nat) (h0 : Nat) (p0 : Nat) (p1 : Nat) (v0 : Value) (v1 : Value) (v4 : Value) (n : Int32) (f0 : Nat → Int64) (f1 : Nat → Int64) (x1 : Int32) (x2 : Int32) (x3 : Int64) (x4 : Int64) (hx1 : 0 ≤ x1.toInt ∧ x1.toInt < 676) (hx2 : 0 ≤ x2.toInt ∧ x2.toInt < 676) (hb2 : 0 ≤ (f1 (x2.toNatClampNeg)).toInt) (hw4 : 1 ≤ x4.toInt) : Met l yX11_multiply wsX11_multiply ({ frames := 2, cells := 0, slots := 0, locals := 72 }) (pW [.ref h0, .int x1, .int x2, .long x3, .long x4] D T [(h0, .inr (8, [v0, v1, .ref p0, .ref p1, v4, .int n])), (p0, .inl (T 1, 676, .inr (.inl f0))), (p1, .inl (T 1, 676, .inr (.inl f1)))] sz) (va_Qv (fun (u : (Nat → Int64) × (Nat → Int64)) => u.1 = vp_updL f0 (x1.toNatClampNeg) (mulW ((f0 (x2.toNatClampNeg)), (f1 (x2.toNatClampNeg))) x3 x4).1 ∧ u.2 = vp_updL f1 (x1.toNatClampNeg) (mulW ((f0 (x2.toNatClampNeg)), (f1 (x2.toNatClampNeg))) x3 x4).2) (bW D (va_A [(h0, .inr (8, [v0, v1, .ref p0, .ref p1, v4, .int n])), (p0, .inl (T 1, 676, .inr (.inl f0))), (p1, .inl (T 1, 676, .inr (.inl f1)))] sz) (fun (u : (Nat → Int64) × (Nat → Int64)) => [(h0, .inr (8, [v0, v1, .ref p0, .ref p1, v4, .int n])), (p0, .inl (T 1, 676, .inr (.inl u.1))), (p1, .inl (T 1, 676, .inr (.inl u.2)))])) (va_A [(h0, .inr (8, [v0, v1, .ref p0, .ref p1, v4, .int n])), (p0, .inl (T 1, 676, .inr (.inl f0))), (p1, .inl (T 1, 676, .inr (.inl f1)))] sz)) 0 0 (va_A [(h0, .inr (8, [v0, v1, .ref p0, .ref p1, v4, .int n])), (p0, .inl (T 1, 676, .inr (.inl f0))), (p1, .inl (T 1, 676, .inr (.inl f1)))] sz) := by
  refine Met.ofW (cc := cX11_multiply) (maxL := 11) (ret := none) (by decide +kernel) rfl ?_
  intro p e s m args below meth c s₁ B hml hv
  obtain ⟨rfl, hsz, hP, hE, hD0⟩ := hv
  have hx := B.exec
  have hb := B.bytes
  have hr := B.returns
  have hts := atoms_spec (ws := wsX11_multiply) B.pre
  have hown : s.vm.findClass RX11 = some m.cls := findClass_of_methodNamed B.named
  have hlocks := B.notSynchronized
  subst hsz
  have hD := hD0.self (sz := s.heap.size)
  generalize hAe : va_A [(h0, .inr (8, [v0, v1, .ref p0, .ref p1, v4, .int n])), (p0, .inl (T 1, 676, .inr (.inl f0))), (p1, .inl (T 1, 676, .inr (.inl f1)))] s.heap.size = A at hD ⊢
  have hA : ∀ q : Nat, s.heap.size ≤ q → A q := fun q h => by rw [← hAe]; exact Or.inr h
  have hS : va_S A s.heap s.heap [] := va_S.rf
  have hP : va_P D vwCl [(h0, .inr (8, [v0, v1, .ref p0, .ref p1, v4, .int n])), (p0, .inl (T 1, 676, .inr (.inl f0))), (p1, .inl (T 1, 676, .inr (.inl f1)))] s.heap := hP
  have hl := lv_entry ([.ref h0, .int x1, .int x2, .long x3, .long x4]) (n := 11) (Nat.le_of_ble_eq_true rfl)
  rw [lg_entry_eq]
  generalize (lg_sl ([.ref h0, .int x1, .int x2, .long x3, .long x4]) ++ List.replicate (11 - (lg_sl ([.ref h0, .int x1, .int x2, .long x3, .long x4])).length) Slot.unset).toArray = ls at hl ⊢
  have hl : lv_has ls 11 [(0, .ref h0), (1, .int x1), (2, .int x2), (3, .long x3), (5, .long x4)] := hl
  clear hD0
  refine lv_aload_n hx hb dX11_multiply_0 rfl (lv_at hl 0 rfl) ?_
  refine va_get (D := D) (ci := 8) (v := .ref p0) (C := RX11) (T := TX11) (N := 6) hx hb hts in_X11_multiply_X11 hown hE.1 hP 0 rfl rfl 2 (by decide +kernel) (hts (.fieldLink RX11 11 "ClauseBook$Worth" "above" "[J") (List.mem_of_getElem? (i := 1) rfl)) (fun _ h9 => h9) rfl dX11_multiply_1 ?_
  refine lv_iload_n hx hb dX11_multiply_4 rfl (lv_at hl 2 rfl) ?_
  refine va_lald hx hb hE.1 hP 1 1 rfl rfl (by rw [vp_in_iff]; omega) dX11_multiply_5 ?_
  refine lv_topl (fun z_1 ez_1 => ?_)
  refine lv_lstore (lv' := [(7, .long z_1), (0, .ref h0), (1, .int x1), (2, .int x2), (3, .long x3), (5, .long x4)]) hx hb dX11_multiply_6 hl (by decide +kernel) rfl (fun ls hl => ?_)
  refine lv_aload_n hx hb dX11_multiply_8 rfl (lv_at hl 1 rfl) ?_
  refine va_get (D := D) (ci := 8) (v := .ref p1) (C := RX11) (T := TX11) (N := 6) hx hb hts in_X11_multiply_X11 hown hE.1 hP 0 rfl rfl 3 (by decide +kernel) (hts (.fieldLink RX11 15 "ClauseBook$Worth" "below" "[J") (List.mem_of_getElem? (i := 2) rfl)) (fun _ h9 => h9) rfl dX11_multiply_9 ?_
  refine lv_iload_n hx hb dX11_multiply_12 rfl (lv_at hl 3 rfl) ?_
  refine va_lald hx hb hE.1 hP 2 1 rfl rfl (by rw [vp_in_iff]; omega) dX11_multiply_13 ?_
  refine lv_topl (fun z_2 ez_2 => ?_)
  refine lv_lstore (lv' := [(9, .long z_2), (7, .long z_1), (0, .ref h0), (1, .int x1), (2, .int x2), (3, .long x3), (5, .long x4)]) hx hb dX11_multiply_14 hl (by decide +kernel) rfl (fun ls hl => ?_)
  have hzy : 0 ≤ z_2.toInt := by rw [ez_2]; exact hb2
  refine lv_lload hx hb dX11_multiply_16 (lv_at hl 0 rfl) ?_
  refine lv_lconst (v := 0) hx hb dX11_multiply_18 (by decide +kernel) ?_
  refine W.lcmp hx hb dX11_multiply_19 ?_
  refine lv_if_eq (tgt := 42) hx hb dX11_multiply_20 (by decide +kernel) (fun c_3 => ?_) (fun c_3 => ?_)
  · rw [lcmp_eq] at c_3
    try rw [tl_0] at c_3
    refine lv_aload_n hx hb dX11_multiply_42 rfl (lv_at hl 2 rfl) ?_
    refine lv_iload_n hx hb dX11_multiply_43 rfl (lv_at hl 3 rfl) ?_
    refine lv_lconst (v := 0) hx hb dX11_multiply_44 (by decide +kernel) ?_
    refine lv_lconst (v := 0) hx hb dX11_multiply_45 (by decide +kernel) ?_
    have hFc := va_free (wc := [(h0, .inr (8, [v0, v1, .ref p0, .ref p1, v4, .int n])), (p0, .inl (T 1, 676, .inr (.inl f0))), (p1, .inl (T 1, 676, .inr (.inl f1)))]) hD hS hA [0, 1, 2] rfl
    refine va_callv (va_runV (As := [.int x1, .long 0, .long 0]) (rest := []) ⟨hx, hb, hml, hown, hts⟩ (c_X11_assign l D T _ h0 p0 p1 (v0) (v1) (v4) n f0 f1 x1 0 0 (by first | decide | omega)) (cwV 3 hts gX11_multiply_X11_assign rfl rfl rfl hv_X11_assign ⟨Nat.le_of_ble_eq_true rfl, Nat.le_of_ble_eq_true rfl⟩) (pW_V (q := (RX11, TX11, 6)) (ci := 8) (q0 := 0) hP hE hD rfl rfl [0, 1, 2] (by decide +kernel) rfl rfl) rfl rfl hl.1 rfl (lv_room (Nat.le_of_ble_eq_true rfl)) dX11_multiply_46 ⟨Nat.le_of_ble_eq_true rfl, Nat.le_of_ble_eq_true rfl⟩) hS (fun q _ h => hFc q h) hFc (fun u_5 t H1 locs ht hvm hr_4 hB hz1 hk1 hS => ?_)
    obtain ⟨f_6, f_7⟩ := u_5
    have hrd1 : f_6 = vp_updL f0 (x1.toNatClampNeg) (((0 : Int64), (0 : Int64))).1 := hr_4.1
    have hrd2 : f_7 = vp_updL f1 (x1.toNatClampNeg) (((0 : Int64), (0 : Int64))).2 := hr_4.2
    obtain ⟨hP1, hD1⟩ := hB
    rw [ht] at hP1
    obtain ⟨hP, hD⟩ := va_repl [(h0, .inr (8, [v0, v1, .ref p0, .ref p1, v4, .int n])), (p0, .inl (T 1, 676, .inr (.inl f_6))), (p1, .inl (T 1, 676, .inr (.inl f_7)))] hP hD [0, 1, 2] [0, 1, 2] rfl (by decide +kernel) rfl rfl rfl hk1 hP1
    clear hP1 hD1 hFc
    generalize H1 = H at hP hS ⊢
    refine lv_goto (tgt := 66) hx hb dX11_multiply_49 (by decide +kernel) ?_
    exact W.vret hx hb hr (fun t ht hW => ⟨⟨(f_6, f_7), rfl, ⟨hrd1.trans (congrArg (fun q9 : Int64 × Int64 => vp_updL f0 (x1.toNatClampNeg) q9.1) (show ((0 : Int64), (0 : Int64)) = mulW ((f0 (x2.toNatClampNeg)), (f1 (x2.toNatClampNeg))) x3 x4 from (by rw [← (show ((z_1, z_2) : Int64 × Int64) = ((f0 (x2.toNatClampNeg)), (f1 (x2.toNatClampNeg))) from by rw [ez_1, ez_2])]; exact (mulW_no (p := (z_1, z_2)) (by first | exact Or.inl (show z_2.toInt = 0 from by omega) | exact Or.inr (Or.inl (by assumption)) | exact Or.inr (Or.inr (by assumption)))).symm))), hrd2.trans (congrArg (fun q9 : Int64 × Int64 => vp_updL f1 (x1.toNatClampNeg) q9.2) (show ((0 : Int64), (0 : Int64)) = mulW ((f0 (x2.toNatClampNeg)), (f1 (x2.toNatClampNeg))) x3 x4 from (by rw [← (show ((z_1, z_2) : Int64 × Int64) = ((f0 (x2.toNatClampNeg)), (f1 (x2.toNatClampNeg))) from by rw [ez_1, ez_2])]; exact (mulW_no (p := (z_1, z_2)) (by first | exact Or.inl (show z_2.toInt = 0 from by omega) | exact Or.inr (Or.inl (by assumption)) | exact Or.inr (Or.inr (by assumption)))).symm)))⟩, by rw [ht]; exact hP.sub [0, 1, 2] rfl, hD.sub [0, 1, 2] (by decide +kernel) rfl⟩, hS.F ht⟩) hS.2.2 dX11_multiply_66
  · rw [lcmp_eq] at c_3
    try rw [tl_0] at c_3
    refine lv_lload hx hb dX11_multiply_23 (lv_at hl 1 rfl) ?_
    refine lv_lload_n hx hb dX11_multiply_25 rfl (lv_at hl 5 rfl) ?_
    refine vp_callSi (W.runS (As := [.long z_1, .long x3]) (rest := []) ⟨hx, hb, hml, hown, hts⟩ (c_X11_productFits l D T z_1 x3) (va_cwS 2 hts gX11_multiply_X11_productFits rfl rfl rfl hs_X11_productFits ⟨Nat.le_of_ble_eq_true rfl, Nat.le_of_ble_eq_true rfl⟩) (pR_S hP hE [] rfl) rfl rfl hl.1 rfl (lv_room (Nat.le_of_ble_eq_true rfl)) dX11_multiply_26 ⟨Nat.le_of_ble_eq_true rfl, Nat.le_of_ble_eq_true rfl⟩) (fun r_8 hr_8 => ?_)
    rcases bool_post hr_8 with ⟨c_9, rfl⟩ | ⟨c_9, rfl⟩
    · refine lv_if_eq (tgt := 42) hx hb dX11_multiply_29 (by decide +kernel) (fun c9 => absurd c9 (by decide +kernel)) (fun _ => ?_)
      refine lv_lload hx hb dX11_multiply_32 (lv_at hl 0 rfl) ?_
      refine lv_lload hx hb dX11_multiply_34 (lv_at hl 6 rfl) ?_
      refine vp_callSi (W.runS (As := [.long z_2, .long x4]) (rest := []) ⟨hx, hb, hml, hown, hts⟩ (c_X11_productFits l D T z_2 x4) (va_cwS 2 hts gX11_multiply_X11_productFits rfl rfl rfl hs_X11_productFits ⟨Nat.le_of_ble_eq_true rfl, Nat.le_of_ble_eq_true rfl⟩) (pR_S hP hE [] rfl) rfl rfl hl.1 rfl (lv_room (Nat.le_of_ble_eq_true rfl)) dX11_multiply_36 ⟨Nat.le_of_ble_eq_true rfl, Nat.le_of_ble_eq_true rfl⟩) (fun r_10 hr_10 => ?_)
      rcases bool_post hr_10 with ⟨c_11, rfl⟩ | ⟨c_11, rfl⟩
      · refine lv_if_ne (tgt := 52) hx hb dX11_multiply_39 (by decide +kernel) (fun _ => ?_) (fun c9 => absurd c9 (by decide +kernel))
        refine lv_aload_n hx hb dX11_multiply_52 rfl (lv_at hl 2 rfl) ?_
        refine lv_iload_n hx hb dX11_multiply_53 rfl (lv_at hl 3 rfl) ?_
        refine lv_lload hx hb dX11_multiply_54 (lv_at hl 1 rfl) ?_
        refine lv_lload_n hx hb dX11_multiply_56 rfl (lv_at hl 5 rfl) ?_
        refine lv_lmul hx hb dX11_multiply_57 ?_
        refine lv_lload hx hb dX11_multiply_58 (lv_at hl 0 rfl) ?_
        refine lv_lload hx hb dX11_multiply_60 (lv_at hl 6 rfl) ?_
        refine lv_lmul hx hb dX11_multiply_62 ?_
        have hFc := va_free (wc := [(h0, .inr (8, [v0, v1, .ref p0, .ref p1, v4, .int n])), (p0, .inl (T 1, 676, .inr (.inl f0))), (p1, .inl (T 1, 676, .inr (.inl f1)))]) hD hS hA [0, 1, 2] rfl
        refine va_callv (va_runV (As := [.int x1, .long (z_1 * x3), .long (z_2 * x4)]) (rest := []) ⟨hx, hb, hml, hown, hts⟩ (c_X11_reduce l D T _ h0 p0 p1 (v0) (v1) (v4) n f0 f1 x1 (z_1 * x3) (z_2 * x4) (by first | decide | omega) (fitM_pos (by omega) (by omega) (by assumption))) (cwV 3 hts gX11_multiply_X11_reduce rfl rfl rfl hv_X11_reduce ⟨Nat.le_of_ble_eq_true rfl, Nat.le_of_ble_eq_true rfl⟩) (pW_V (q := (RX11, TX11, 6)) (ci := 8) (q0 := 0) hP hE hD rfl rfl [0, 1, 2] (by decide +kernel) rfl rfl) rfl rfl hl.1 rfl (lv_room (Nat.le_of_ble_eq_true rfl)) dX11_multiply_63 ⟨Nat.le_of_ble_eq_true rfl, Nat.le_of_ble_eq_true rfl⟩) hS (fun q _ h => hFc q h) hFc (fun u_13 t H1 locs ht hvm hr_12 hB hz1 hk1 hS => ?_)
        obtain ⟨f_14, f_15⟩ := u_13
        have hrd1 : f_14 = vp_updL f0 (x1.toNatClampNeg) (redW (z_1 * x3) (z_2 * x4)).1 := hr_12.1
        have hrd2 : f_15 = vp_updL f1 (x1.toNatClampNeg) (redW (z_1 * x3) (z_2 * x4)).2 := hr_12.2
        obtain ⟨hP1, hD1⟩ := hB
        rw [ht] at hP1
        obtain ⟨hP, hD⟩ := va_repl [(h0, .inr (8, [v0, v1, .ref p0, .ref p1, v4, .int n])), (p0, .inl (T 1, 676, .inr (.inl f_14))), (p1, .inl (T 1, 676, .inr (.inl f_15)))] hP hD [0, 1, 2] [0, 1, 2] rfl (by decide +kernel) rfl rfl rfl hk1 hP1
        clear hP1 hD1 hFc
        generalize H1 = H at hP hS ⊢
        exact W.vret hx hb hr (fun t ht hW => ⟨⟨(f_14, f_15), rfl, ⟨hrd1.trans (congrArg (fun q9 : Int64 × Int64 => vp_updL f0 (x1.toNatClampNeg) q9.1) (show redW (z_1 * x3) (z_2 * x4) = mulW ((f0 (x2.toNatClampNeg)), (f1 (x2.toNatClampNeg))) x3 x4 from (by rw [← (show ((z_1, z_2) : Int64 × Int64) = ((f0 (x2.toNatClampNeg)), (f1 (x2.toNatClampNeg))) from by rw [ez_1, ez_2])]; exact (mulW_yes (p := (z_1, z_2)) (show ¬ z_2.toInt = 0 from by omega) (by assumption) (by assumption)).symm))), hrd2.trans (congrArg (fun q9 : Int64 × Int64 => vp_updL f1 (x1.toNatClampNeg) q9.2) (show redW (z_1 * x3) (z_2 * x4) = mulW ((f0 (x2.toNatClampNeg)), (f1 (x2.toNatClampNeg))) x3 x4 from (by rw [← (show ((z_1, z_2) : Int64 × Int64) = ((f0 (x2.toNatClampNeg)), (f1 (x2.toNatClampNeg))) from by rw [ez_1, ez_2])]; exact (mulW_yes (p := (z_1, z_2)) (show ¬ z_2.toInt = 0 from by omega) (by assumption) (by assumption)).symm)))⟩, by rw [ht]; exact hP.sub [0, 1, 2] rfl, hD.sub [0, 1, 2] (by decide +kernel) rfl⟩, hS.F ht⟩) hS.2.2 dX11_multiply_66
      · refine lv_if_ne (tgt := 52) hx hb dX11_multiply_39 (by decide +kernel) (fun c9 => absurd c9 (by decide +kernel)) (fun _ => ?_)
        refine lv_aload_n hx hb dX11_multiply_42 rfl (lv_at hl 2 rfl) ?_
        refine lv_iload_n hx hb dX11_multiply_43 rfl (lv_at hl 3 rfl) ?_
        refine lv_lconst (v := 0) hx hb dX11_multiply_44 (by decide +kernel) ?_
        refine lv_lconst (v := 0) hx hb dX11_multiply_45 (by decide +kernel) ?_
        have hFc := va_free (wc := [(h0, .inr (8, [v0, v1, .ref p0, .ref p1, v4, .int n])), (p0, .inl (T 1, 676, .inr (.inl f0))), (p1, .inl (T 1, 676, .inr (.inl f1)))]) hD hS hA [0, 1, 2] rfl
        refine va_callv (va_runV (As := [.int x1, .long 0, .long 0]) (rest := []) ⟨hx, hb, hml, hown, hts⟩ (c_X11_assign l D T _ h0 p0 p1 (v0) (v1) (v4) n f0 f1 x1 0 0 (by first | decide | omega)) (cwV 3 hts gX11_multiply_X11_assign rfl rfl rfl hv_X11_assign ⟨Nat.le_of_ble_eq_true rfl, Nat.le_of_ble_eq_true rfl⟩) (pW_V (q := (RX11, TX11, 6)) (ci := 8) (q0 := 0) hP hE hD rfl rfl [0, 1, 2] (by decide +kernel) rfl rfl) rfl rfl hl.1 rfl (lv_room (Nat.le_of_ble_eq_true rfl)) dX11_multiply_46 ⟨Nat.le_of_ble_eq_true rfl, Nat.le_of_ble_eq_true rfl⟩) hS (fun q _ h => hFc q h) hFc (fun u_17 t H1 locs ht hvm hr_16 hB hz1 hk1 hS => ?_)
        obtain ⟨f_18, f_19⟩ := u_17
        have hrd1 : f_18 = vp_updL f0 (x1.toNatClampNeg) (((0 : Int64), (0 : Int64))).1 := hr_16.1
        have hrd2 : f_19 = vp_updL f1 (x1.toNatClampNeg) (((0 : Int64), (0 : Int64))).2 := hr_16.2
        obtain ⟨hP1, hD1⟩ := hB
        rw [ht] at hP1
        obtain ⟨hP, hD⟩ := va_repl [(h0, .inr (8, [v0, v1, .ref p0, .ref p1, v4, .int n])), (p0, .inl (T 1, 676, .inr (.inl f_18))), (p1, .inl (T 1, 676, .inr (.inl f_19)))] hP hD [0, 1, 2] [0, 1, 2] rfl (by decide +kernel) rfl rfl rfl hk1 hP1
        clear hP1 hD1 hFc
        generalize H1 = H at hP hS ⊢
        refine lv_goto (tgt := 66) hx hb dX11_multiply_49 (by decide +kernel) ?_
        exact W.vret hx hb hr (fun t ht hW => ⟨⟨(f_18, f_19), rfl, ⟨hrd1.trans (congrArg (fun q9 : Int64 × Int64 => vp_updL f0 (x1.toNatClampNeg) q9.1) (show ((0 : Int64), (0 : Int64)) = mulW ((f0 (x2.toNatClampNeg)), (f1 (x2.toNatClampNeg))) x3 x4 from (by rw [← (show ((z_1, z_2) : Int64 × Int64) = ((f0 (x2.toNatClampNeg)), (f1 (x2.toNatClampNeg))) from by rw [ez_1, ez_2])]; exact (mulW_no (p := (z_1, z_2)) (by first | exact Or.inl (show z_2.toInt = 0 from by omega) | exact Or.inr (Or.inl (by assumption)) | exact Or.inr (Or.inr (by assumption)))).symm))), hrd2.trans (congrArg (fun q9 : Int64 × Int64 => vp_updL f1 (x1.toNatClampNeg) q9.2) (show ((0 : Int64), (0 : Int64)) = mulW ((f0 (x2.toNatClampNeg)), (f1 (x2.toNatClampNeg))) x3 x4 from (by rw [← (show ((z_1, z_2) : Int64 × Int64) = ((f0 (x2.toNatClampNeg)), (f1 (x2.toNatClampNeg))) from by rw [ez_1, ez_2])]; exact (mulW_no (p := (z_1, z_2)) (by first | exact Or.inl (show z_2.toInt = 0 from by omega) | exact Or.inr (Or.inl (by assumption)) | exact Or.inr (Or.inr (by assumption)))).symm)))⟩, by rw [ht]; exact hP.sub [0, 1, 2] rfl, hD.sub [0, 1, 2] (by decide +kernel) rfl⟩, hS.F ht⟩) hS.2.2 dX11_multiply_66
    · refine lv_if_eq (tgt := 42) hx hb dX11_multiply_29 (by decide +kernel) (fun _ => ?_) (fun c9 => absurd c9 (by decide +kernel))
      refine lv_aload_n hx hb dX11_multiply_42 rfl (lv_at hl 2 rfl) ?_
      refine lv_iload_n hx hb dX11_multiply_43 rfl (lv_at hl 3 rfl) ?_
      refine lv_lconst (v := 0) hx hb dX11_multiply_44 (by decide +kernel) ?_
      refine lv_lconst (v := 0) hx hb dX11_multiply_45 (by decide +kernel) ?_
      have hFc := va_free (wc := [(h0, .inr (8, [v0, v1, .ref p0, .ref p1, v4, .int n])), (p0, .inl (T 1, 676, .inr (.inl f0))), (p1, .inl (T 1, 676, .inr (.inl f1)))]) hD hS hA [0, 1, 2] rfl
      refine va_callv (va_runV (As := [.int x1, .long 0, .long 0]) (rest := []) ⟨hx, hb, hml, hown, hts⟩ (c_X11_assign l D T _ h0 p0 p1 (v0) (v1) (v4) n f0 f1 x1 0 0 (by first | decide | omega)) (cwV 3 hts gX11_multiply_X11_assign rfl rfl rfl hv_X11_assign ⟨Nat.le_of_ble_eq_true rfl, Nat.le_of_ble_eq_true rfl⟩) (pW_V (q := (RX11, TX11, 6)) (ci := 8) (q0 := 0) hP hE hD rfl rfl [0, 1, 2] (by decide +kernel) rfl rfl) rfl rfl hl.1 rfl (lv_room (Nat.le_of_ble_eq_true rfl)) dX11_multiply_46 ⟨Nat.le_of_ble_eq_true rfl, Nat.le_of_ble_eq_true rfl⟩) hS (fun q _ h => hFc q h) hFc (fun u_21 t H1 locs ht hvm hr_20 hB hz1 hk1 hS => ?_)
      obtain ⟨f_22, f_23⟩ := u_21
      have hrd1 : f_22 = vp_updL f0 (x1.toNatClampNeg) (((0 : Int64), (0 : Int64))).1 := hr_20.1
      have hrd2 : f_23 = vp_updL f1 (x1.toNatClampNeg) (((0 : Int64), (0 : Int64))).2 := hr_20.2
      obtain ⟨hP1, hD1⟩ := hB
      rw [ht] at hP1
      obtain ⟨hP, hD⟩ := va_repl [(h0, .inr (8, [v0, v1, .ref p0, .ref p1, v4, .int n])), (p0, .inl (T 1, 676, .inr (.inl f_22))), (p1, .inl (T 1, 676, .inr (.inl f_23)))] hP hD [0, 1, 2] [0, 1, 2] rfl (by decide +kernel) rfl rfl rfl hk1 hP1
      clear hP1 hD1 hFc
      generalize H1 = H at hP hS ⊢
      refine lv_goto (tgt := 66) hx hb dX11_multiply_49 (by decide +kernel) ?_
      exact W.vret hx hb hr (fun t ht hW => ⟨⟨(f_22, f_23), rfl, ⟨hrd1.trans (congrArg (fun q9 : Int64 × Int64 => vp_updL f0 (x1.toNatClampNeg) q9.1) (show ((0 : Int64), (0 : Int64)) = mulW ((f0 (x2.toNatClampNeg)), (f1 (x2.toNatClampNeg))) x3 x4 from (by rw [← (show ((z_1, z_2) : Int64 × Int64) = ((f0 (x2.toNatClampNeg)), (f1 (x2.toNatClampNeg))) from by rw [ez_1, ez_2])]; exact (mulW_no (p := (z_1, z_2)) (by first | exact Or.inl (show z_2.toInt = 0 from by omega) | exact Or.inr (Or.inl (by assumption)) | exact Or.inr (Or.inr (by assumption)))).symm))), hrd2.trans (congrArg (fun q9 : Int64 × Int64 => vp_updL f1 (x1.toNatClampNeg) q9.2) (show ((0 : Int64), (0 : Int64)) = mulW ((f0 (x2.toNatClampNeg)), (f1 (x2.toNatClampNeg))) x3 x4 from (by rw [← (show ((z_1, z_2) : Int64 × Int64) = ((f0 (x2.toNatClampNeg)), (f1 (x2.toNatClampNeg))) from by rw [ez_1, ez_2])]; exact (mulW_no (p := (z_1, z_2)) (by first | exact Or.inl (show z_2.toInt = 0 from by omega) | exact Or.inr (Or.inl (by assumption)) | exact Or.inr (Or.inr (by assumption)))).symm)))⟩, by rw [ht]; exact hP.sub [0, 1, 2] rfl, hD.sub [0, 1, 2] (by decide +kernel) rfl⟩, hS.F ht⟩) hS.2.2 dX11_multiply_66
theorem dX11_plus_0 : decode cX11_plus 0 = .ok (.aload_n 0, 1) := by decide +kernel
theorem dX11_plus_1 : decode cX11_plus 1 = .ok (.getfield 11, 3) := by decide +kernel
theorem dX11_plus_101 : decode cX11_plus 101 = .ok (.ifCond .eq 27, 3) := by decide +kernel
theorem dX11_plus_104 : decode cX11_plus 104 = .ok (.aload_n 0, 1) := by decide +kernel
theorem dX11_plus_105 : decode cX11_plus 105 = .ok (.iload_n 1, 1) := by decide +kernel
theorem dX11_plus_106 : decode cX11_plus 106 = .ok (.lload 4, 2) := by decide +kernel
theorem dX11_plus_108 : decode cX11_plus 108 = .ok (.lload 10, 2) := by decide +kernel
theorem dX11_plus_110 : decode cX11_plus 110 = .ok (.lmul, 1) := by decide +kernel
theorem dX11_plus_111 : decode cX11_plus 111 = .ok (.lload 8, 2) := by decide +kernel
theorem dX11_plus_113 : decode cX11_plus 113 = .ok (.lload 6, 2) := by decide +kernel
theorem dX11_plus_115 : decode cX11_plus 115 = .ok (.lmul, 1) := by decide +kernel
theorem dX11_plus_116 : decode cX11_plus 116 = .ok (.ladd, 1) := by decide +kernel
theorem dX11_plus_117 : decode cX11_plus 117 = .ok (.lload 6, 2) := by decide +kernel
theorem dX11_plus_119 : decode cX11_plus 119 = .ok (.lload 10, 2) := by decide +kernel
theorem dX11_plus_12 : decode cX11_plus 12 = .ok (.iload_n 2, 1) := by decide +kernel
theorem dX11_plus_121 : decode cX11_plus 121 = .ok (.lmul, 1) := by decide +kernel
theorem dX11_plus_122 : decode cX11_plus 122 = .ok (.invokevirtual 141, 3) := by decide +kernel
theorem dX11_plus_125 : decode cX11_plus 125 = .ok (.goto 10, 3) := by decide +kernel
theorem dX11_plus_128 : decode cX11_plus 128 = .ok (.aload_n 0, 1) := by decide +kernel
theorem dX11_plus_129 : decode cX11_plus 129 = .ok (.iload_n 1, 1) := by decide +kernel
theorem dX11_plus_13 : decode cX11_plus 13 = .ok (.laload, 1) := by decide +kernel
theorem dX11_plus_130 : decode cX11_plus 130 = .ok (.lconst 0, 1) := by decide +kernel
theorem dX11_plus_131 : decode cX11_plus 131 = .ok (.lconst 0, 1) := by decide +kernel
theorem dX11_plus_132 : decode cX11_plus 132 = .ok (.invokevirtual 67, 3) := by decide +kernel
theorem dX11_plus_135 : decode cX11_plus 135 = .ok (.return_, 1) := by decide +kernel
theorem dX11_plus_14 : decode cX11_plus 14 = .ok (.lstore 6, 2) := by decide +kernel
theorem dX11_plus_16 : decode cX11_plus 16 = .ok (.aload_n 0, 1) := by decide +kernel
theorem dX11_plus_17 : decode cX11_plus 17 = .ok (.getfield 11, 3) := by decide +kernel
theorem dX11_plus_20 : decode cX11_plus 20 = .ok (.iload_n 3, 1) := by decide +kernel
theorem dX11_plus_21 : decode cX11_plus 21 = .ok (.laload, 1) := by decide +kernel
theorem dX11_plus_22 : decode cX11_plus 22 = .ok (.lstore 8, 2) := by decide +kernel
theorem dX11_plus_24 : decode cX11_plus 24 = .ok (.aload_n 0, 1) := by decide +kernel
theorem dX11_plus_25 : decode cX11_plus 25 = .ok (.getfield 15, 3) := by decide +kernel
theorem dX11_plus_28 : decode cX11_plus 28 = .ok (.iload_n 3, 1) := by decide +kernel
theorem dX11_plus_29 : decode cX11_plus 29 = .ok (.laload, 1) := by decide +kernel
theorem dX11_plus_30 : decode cX11_plus 30 = .ok (.lstore 10, 2) := by decide +kernel
theorem dX11_plus_32 : decode cX11_plus 32 = .ok (.lload 6, 2) := by decide +kernel
theorem dX11_plus_34 : decode cX11_plus 34 = .ok (.lconst 0, 1) := by decide +kernel
theorem dX11_plus_35 : decode cX11_plus 35 = .ok (.lcmp, 1) := by decide +kernel
theorem dX11_plus_36 : decode cX11_plus 36 = .ok (.ifCond .eq 60, 3) := by decide +kernel
theorem dX11_plus_39 : decode cX11_plus 39 = .ok (.lload 10, 2) := by decide +kernel
theorem dX11_plus_4 : decode cX11_plus 4 = .ok (.iload_n 2, 1) := by decide +kernel
theorem dX11_plus_41 : decode cX11_plus 41 = .ok (.lconst 0, 1) := by decide +kernel
theorem dX11_plus_42 : decode cX11_plus 42 = .ok (.lcmp, 1) := by decide +kernel
theorem dX11_plus_43 : decode cX11_plus 43 = .ok (.ifCond .eq 53, 3) := by decide +kernel
theorem dX11_plus_46 : decode cX11_plus 46 = .ok (.lload 4, 2) := by decide +kernel
theorem dX11_plus_48 : decode cX11_plus 48 = .ok (.lload 10, 2) := by decide +kernel
theorem dX11_plus_5 : decode cX11_plus 5 = .ok (.laload, 1) := by decide +kernel
theorem dX11_plus_50 : decode cX11_plus 50 = .ok (.invokestatic 147, 3) := by decide +kernel
theorem dX11_plus_53 : decode cX11_plus 53 = .ok (.ifCond .eq 43, 3) := by decide +kernel
theorem dX11_plus_56 : decode cX11_plus 56 = .ok (.lload 8, 2) := by decide +kernel
theorem dX11_plus_58 : decode cX11_plus 58 = .ok (.lload 6, 2) := by decide +kernel
theorem dX11_plus_6 : decode cX11_plus 6 = .ok (.lstore 4, 2) := by decide +kernel
theorem dX11_plus_60 : decode cX11_plus 60 = .ok (.invokestatic 147, 3) := by decide +kernel
theorem dX11_plus_63 : decode cX11_plus 63 = .ok (.ifCond .eq 33, 3) := by decide +kernel
theorem dX11_plus_66 : decode cX11_plus 66 = .ok (.lload 6, 2) := by decide +kernel
theorem dX11_plus_68 : decode cX11_plus 68 = .ok (.lload 10, 2) := by decide +kernel
theorem dX11_plus_70 : decode cX11_plus 70 = .ok (.invokestatic 147, 3) := by decide +kernel
theorem dX11_plus_73 : decode cX11_plus 73 = .ok (.ifCond .eq 23, 3) := by decide +kernel
theorem dX11_plus_76 : decode cX11_plus 76 = .ok (.lload 4, 2) := by decide +kernel
theorem dX11_plus_78 : decode cX11_plus 78 = .ok (.lload 10, 2) := by decide +kernel
theorem dX11_plus_8 : decode cX11_plus 8 = .ok (.aload_n 0, 1) := by decide +kernel
theorem dX11_plus_80 : decode cX11_plus 80 = .ok (.lmul, 1) := by decide +kernel
theorem dX11_plus_81 : decode cX11_plus 81 = .ok (.lload 8, 2) := by decide +kernel
theorem dX11_plus_83 : decode cX11_plus 83 = .ok (.lload 6, 2) := by decide +kernel
theorem dX11_plus_85 : decode cX11_plus 85 = .ok (.lmul, 1) := by decide +kernel
theorem dX11_plus_86 : decode cX11_plus 86 = .ok (.invokestatic 151, 3) := by decide +kernel
theorem dX11_plus_89 : decode cX11_plus 89 = .ok (.ifCond .eq 7, 3) := by decide +kernel
theorem dX11_plus_9 : decode cX11_plus 9 = .ok (.getfield 15, 3) := by decide +kernel
theorem dX11_plus_92 : decode cX11_plus 92 = .ok (.iconst 1, 1) := by decide +kernel
theorem dX11_plus_93 : decode cX11_plus 93 = .ok (.goto 4, 3) := by decide +kernel
theorem dX11_plus_96 : decode cX11_plus 96 = .ok (.iconst 0, 1) := by decide +kernel
theorem dX11_plus_97 : decode cX11_plus 97 = .ok (.istore 12, 2) := by decide +kernel
theorem dX11_plus_99 : decode cX11_plus 99 = .ok (.iload 12, 2) := by decide +kernel
set_option maxRecDepth 20000 in
theorem ggX11_plus_X11_assign : GoodIn wsX11_plus wsX11_assign := goodIn_r _ [23, 1, 2, 24, 25, 26, 27, 28, 29] rfl (by decide +kernel)
set_option maxRecDepth 20000 in
theorem ggX11_plus_X11_productFits : GoodIn wsX11_plus wsX11_productFits := goodIn_r _ [6, 7, 8] rfl (by decide +kernel)
set_option maxRecDepth 20000 in
theorem ggX11_plus_X11_reduce : GoodIn wsX11_plus wsX11_reduce := goodIn_r _ [15, 1, 2, 16, 17, 18, 19, 24, 25, 26, 27, 28, 29] rfl (by decide +kernel)
set_option maxRecDepth 20000 in
theorem ggX11_plus_X11_sumFits : GoodIn wsX11_plus wsX11_sumFits := goodIn_r _ [11] rfl (by decide +kernel)
set_option maxRecDepth 20000 in
theorem gX11_plus_X11_assign : GoodIn wsX11_plus (wsV RX11 67 RX11 yX11_assign wsX11_assign) := goodIn_app (goodIn_r _ [20, 21, 22, 5] rfl (by decide +kernel)) ggX11_plus_X11_assign
set_option maxRecDepth 20000 in
theorem gX11_plus_X11_productFits : GoodIn wsX11_plus (va_wsS RX11 147 yX11_productFits wsX11_productFits) := goodIn_app (goodIn_of _ (by decide +kernel)) ggX11_plus_X11_productFits
set_option maxRecDepth 20000 in
theorem gX11_plus_X11_reduce : GoodIn wsX11_plus (wsV RX11 141 RX11 yX11_reduce wsX11_reduce) := goodIn_app (goodIn_r _ [12, 13, 14, 5] rfl (by decide +kernel)) ggX11_plus_X11_reduce
set_option maxRecDepth 20000 in
theorem gX11_plus_X11_sumFits : GoodIn wsX11_plus (va_wsS RX11 151 yX11_sumFits wsX11_sumFits) := goodIn_app (goodIn_of _ (by decide +kernel)) ggX11_plus_X11_sumFits
theorem hs_X11_sumFits : yX11_sumFits.cls ≠ "java/lang/invoke/MethodHandle" ∧ yX11_sumFits.cls ≠ "java/lang/invoke/VarHandle" ∧ (parseMethodDescriptor yX11_sumFits.desc).map (fun d => d.parameters.length) = some 2 := by decide +kernel
set_option maxRecDepth 20000 in
theorem in_X11_plus_X11 : ∀ w ∈ wsX110, w ∈ wsX11_plus := sub_r [24, 25, 26, 27, 28, 29] rfl
set_option maxHeartbeats 4000000 in
set_option maxRecDepth 100000 in
theorem c_X11_plus (l : Launch) (D : va_G) (T : Nat → ClassId) (sz : Nat) (h0 : Nat) (p0 : Nat) (p1 : Nat) (v0 : Value) (v1 : Value) (v4 : Value) (n : Int32) (f0 : Nat → Int64) (f1 : Nat → Int64) (x1 : Int32) (x2 : Int32) (x3 : Int32) (hx1 : 0 ≤ x1.toInt ∧ x1.toInt < 676) (hx2 : 0 ≤ x2.toInt ∧ x2.toInt < 676) (hx3 : 0 ≤ x3.toInt ∧ x3.toInt < 676) (hb2 : 0 ≤ (f1 (x2.toNatClampNeg)).toInt) (hb3 : 0 ≤ (f1 (x3.toNatClampNeg)).toInt) : Met l yX11_plus wsX11_plus ({ frames := 2, cells := 0, slots := 0, locals := 72 }) (pW [.ref h0, .int x1, .int x2, .int x3] D T [(h0, .inr (8, [v0, v1, .ref p0, .ref p1, v4, .int n])), (p0, .inl (T 1, 676, .inr (.inl f0))), (p1, .inl (T 1, 676, .inr (.inl f1)))] sz) (va_Qv (fun (u : (Nat → Int64) × (Nat → Int64)) => u.1 = vp_updL f0 (x1.toNatClampNeg) (addW ((f0 (x2.toNatClampNeg)), (f1 (x2.toNatClampNeg))) ((f0 (x3.toNatClampNeg)), (f1 (x3.toNatClampNeg)))).1 ∧ u.2 = vp_updL f1 (x1.toNatClampNeg) (addW ((f0 (x2.toNatClampNeg)), (f1 (x2.toNatClampNeg))) ((f0 (x3.toNatClampNeg)), (f1 (x3.toNatClampNeg)))).2) (bW D (va_A [(h0, .inr (8, [v0, v1, .ref p0, .ref p1, v4, .int n])), (p0, .inl (T 1, 676, .inr (.inl f0))), (p1, .inl (T 1, 676, .inr (.inl f1)))] sz) (fun (u : (Nat → Int64) × (Nat → Int64)) => [(h0, .inr (8, [v0, v1, .ref p0, .ref p1, v4, .int n])), (p0, .inl (T 1, 676, .inr (.inl u.1))), (p1, .inl (T 1, 676, .inr (.inl u.2)))])) (va_A [(h0, .inr (8, [v0, v1, .ref p0, .ref p1, v4, .int n])), (p0, .inl (T 1, 676, .inr (.inl f0))), (p1, .inl (T 1, 676, .inr (.inl f1)))] sz)) 0 0 (va_A [(h0, .inr (8, [v0, v1, .ref p0, .ref p1, v4, .int n])), (p0, .inl (T 1, 676, .inr (.inl f0))), (p1, .inl (T 1, 676, .inr (.inl f1)))] sz) := by
  refine Met.ofW (cc := cX11_plus) (maxL := 13) (ret := none) (by decide +kernel) rfl ?_
  intro p e s m args below meth c s₁ B hml hv
  obtain ⟨rfl, hsz, hP, hE, hD0⟩ := hv
  have hx := B.exec
  have hb := B.bytes
  have hr := B.returns
  have hts := atoms_spec (ws := wsX11_plus) B.pre
  have hown : s.vm.findClass RX11 = some m.cls := findClass_of_methodNamed B.named
  have hlocks := B.notSynchronized
  subst hsz
  have hD := hD0.self (sz := s.heap.size)
  generalize hAe : va_A [(h0, .inr (8, [v0, v1, .ref p0, .ref p1, v4, .int n])), (p0, .inl (T 1, 676, .inr (.inl f0))), (p1, .inl (T 1, 676, .inr (.inl f1)))] s.heap.size = A at hD ⊢
  have hA : ∀ q : Nat, s.heap.size ≤ q → A q := fun q h => by rw [← hAe]; exact Or.inr h
  have hS : va_S A s.heap s.heap [] := va_S.rf
  have hP : va_P D vwCl [(h0, .inr (8, [v0, v1, .ref p0, .ref p1, v4, .int n])), (p0, .inl (T 1, 676, .inr (.inl f0))), (p1, .inl (T 1, 676, .inr (.inl f1)))] s.heap := hP
  have hl := lv_entry ([.ref h0, .int x1, .int x2, .int x3]) (n := 13) (Nat.le_of_ble_eq_true rfl)
  rw [lg_entry_eq]
  generalize (lg_sl ([.ref h0, .int x1, .int x2, .int x3]) ++ List.replicate (13 - (lg_sl ([.ref h0, .int x1, .int x2, .int x3])).length) Slot.unset).toArray = ls at hl ⊢
  have hl : lv_has ls 13 [(0, .ref h0), (1, .int x1), (2, .int x2), (3, .int x3)] := hl
  clear hD0
  refine lv_aload_n hx hb dX11_plus_0 rfl (lv_at hl 0 rfl) ?_
  refine va_get (D := D) (ci := 8) (v := .ref p0) (C := RX11) (T := TX11) (N := 6) hx hb hts in_X11_plus_X11 hown hE.1 hP 0 rfl rfl 2 (by decide +kernel) (hts (.fieldLink RX11 11 "ClauseBook$Worth" "above" "[J") (List.mem_of_getElem? (i := 1) rfl)) (fun _ h9 => h9) rfl dX11_plus_1 ?_
  refine lv_iload_n hx hb dX11_plus_4 rfl (lv_at hl 2 rfl) ?_
  refine va_lald hx hb hE.1 hP 1 1 rfl rfl (by rw [vp_in_iff]; omega) dX11_plus_5 ?_
  refine lv_topl (fun z_1 ez_1 => ?_)
  refine lv_lstore (lv' := [(4, .long z_1), (0, .ref h0), (1, .int x1), (2, .int x2), (3, .int x3)]) hx hb dX11_plus_6 hl (by decide +kernel) rfl (fun ls hl => ?_)
  refine lv_aload_n hx hb dX11_plus_8 rfl (lv_at hl 1 rfl) ?_
  refine va_get (D := D) (ci := 8) (v := .ref p1) (C := RX11) (T := TX11) (N := 6) hx hb hts in_X11_plus_X11 hown hE.1 hP 0 rfl rfl 3 (by decide +kernel) (hts (.fieldLink RX11 15 "ClauseBook$Worth" "below" "[J") (List.mem_of_getElem? (i := 2) rfl)) (fun _ h9 => h9) rfl dX11_plus_9 ?_
  refine lv_iload_n hx hb dX11_plus_12 rfl (lv_at hl 3 rfl) ?_
  refine va_lald hx hb hE.1 hP 2 1 rfl rfl (by rw [vp_in_iff]; omega) dX11_plus_13 ?_
  refine lv_topl (fun z_2 ez_2 => ?_)
  refine lv_lstore (lv' := [(6, .long z_2), (4, .long z_1), (0, .ref h0), (1, .int x1), (2, .int x2), (3, .int x3)]) hx hb dX11_plus_14 hl (by decide +kernel) rfl (fun ls hl => ?_)
  refine lv_aload_n hx hb dX11_plus_16 rfl (lv_at hl 2 rfl) ?_
  refine va_get (D := D) (ci := 8) (v := .ref p0) (C := RX11) (T := TX11) (N := 6) hx hb hts in_X11_plus_X11 hown hE.1 hP 0 rfl rfl 2 (by decide +kernel) (hts (.fieldLink RX11 11 "ClauseBook$Worth" "above" "[J") (List.mem_of_getElem? (i := 1) rfl)) (fun _ h9 => h9) rfl dX11_plus_17 ?_
  refine lv_iload_n hx hb dX11_plus_20 rfl (lv_at hl 5 rfl) ?_
  refine va_lald hx hb hE.1 hP 1 1 rfl rfl (by rw [vp_in_iff]; omega) dX11_plus_21 ?_
  refine lv_topl (fun z_3 ez_3 => ?_)
  refine lv_lstore (lv' := [(8, .long z_3), (6, .long z_2), (4, .long z_1), (0, .ref h0), (1, .int x1), (2, .int x2), (3, .int x3)]) hx hb dX11_plus_22 hl (by decide +kernel) rfl (fun ls hl => ?_)
  refine lv_aload_n hx hb dX11_plus_24 rfl (lv_at hl 3 rfl) ?_
  refine va_get (D := D) (ci := 8) (v := .ref p1) (C := RX11) (T := TX11) (N := 6) hx hb hts in_X11_plus_X11 hown hE.1 hP 0 rfl rfl 3 (by decide +kernel) (hts (.fieldLink RX11 15 "ClauseBook$Worth" "below" "[J") (List.mem_of_getElem? (i := 2) rfl)) (fun _ h9 => h9) rfl dX11_plus_25 ?_
  refine lv_iload_n hx hb dX11_plus_28 rfl (lv_at hl 6 rfl) ?_
  refine va_lald hx hb hE.1 hP 2 1 rfl rfl (by rw [vp_in_iff]; omega) dX11_plus_29 ?_
  refine lv_topl (fun z_4 ez_4 => ?_)
  refine lv_lstore (lv' := [(10, .long z_4), (8, .long z_3), (6, .long z_2), (4, .long z_1), (0, .ref h0), (1, .int x1), (2, .int x2), (3, .int x3)]) hx hb dX11_plus_30 hl (by decide +kernel) rfl (fun ls hl => ?_)
  have hz6 : 0 ≤ z_2.toInt := by rw [ez_2]; exact hb2
  have hz10 : 0 ≤ z_4.toInt := by rw [ez_4]; exact hb3
  refine lv_lload hx hb dX11_plus_32 (lv_at hl 2 rfl) ?_
  refine lv_lconst (v := 0) hx hb dX11_plus_34 (by decide +kernel) ?_
  refine W.lcmp hx hb dX11_plus_35 ?_
  refine lv_if_eq (tgt := 96) hx hb dX11_plus_36 (by decide +kernel) (fun c_5 => ?_) (fun c_5 => ?_)
  · rw [lcmp_eq] at c_5
    try rw [tl_0] at c_5
    refine lv_iconst (v := 0) hx hb dX11_plus_96 (by decide +kernel) ?_
    refine lv_istore (lv' := [(12, .int 0), (10, .long z_4), (8, .long z_3), (6, .long z_2), (4, .long z_1), (0, .ref h0), (1, .int x1), (2, .int x2), (3, .int x3)]) hx hb dX11_plus_97 hl (by decide +kernel) rfl (fun ls hl => ?_)
    refine lv_iload hx hb dX11_plus_99 (lv_at hl 0 rfl) ?_
    refine lv_if_eq (tgt := 128) hx hb dX11_plus_101 (by decide +kernel) (fun _ => ?_) (fun c9 => absurd c9 (by decide +kernel))
    refine lv_aload_n hx hb dX11_plus_128 rfl (lv_at hl 5 rfl) ?_
    refine lv_iload_n hx hb dX11_plus_129 rfl (lv_at hl 6 rfl) ?_
    refine lv_lconst (v := 0) hx hb dX11_plus_130 (by decide +kernel) ?_
    refine lv_lconst (v := 0) hx hb dX11_plus_131 (by decide +kernel) ?_
    have hFc := va_free (wc := [(h0, .inr (8, [v0, v1, .ref p0, .ref p1, v4, .int n])), (p0, .inl (T 1, 676, .inr (.inl f0))), (p1, .inl (T 1, 676, .inr (.inl f1)))]) hD hS hA [0, 1, 2] rfl
    refine va_callv (va_runV (As := [.int x1, .long 0, .long 0]) (rest := []) ⟨hx, hb, hml, hown, hts⟩ (c_X11_assign l D T _ h0 p0 p1 (v0) (v1) (v4) n f0 f1 x1 0 0 (by first | decide | omega)) (cwV 3 hts gX11_plus_X11_assign rfl rfl rfl hv_X11_assign ⟨Nat.le_of_ble_eq_true rfl, Nat.le_of_ble_eq_true rfl⟩) (pW_V (q := (RX11, TX11, 6)) (ci := 8) (q0 := 0) hP hE hD rfl rfl [0, 1, 2] (by decide +kernel) rfl rfl) rfl rfl hl.1 rfl (lv_room (Nat.le_of_ble_eq_true rfl)) dX11_plus_132 ⟨Nat.le_of_ble_eq_true rfl, Nat.le_of_ble_eq_true rfl⟩) hS (fun q _ h => hFc q h) hFc (fun u_7 t H1 locs ht hvm hr_6 hB hz1 hk1 hS => ?_)
    obtain ⟨f_8, f_9⟩ := u_7
    have hrd1 : f_8 = vp_updL f0 (x1.toNatClampNeg) (((0 : Int64), (0 : Int64))).1 := hr_6.1
    have hrd2 : f_9 = vp_updL f1 (x1.toNatClampNeg) (((0 : Int64), (0 : Int64))).2 := hr_6.2
    obtain ⟨hP1, hD1⟩ := hB
    rw [ht] at hP1
    obtain ⟨hP, hD⟩ := va_repl [(h0, .inr (8, [v0, v1, .ref p0, .ref p1, v4, .int n])), (p0, .inl (T 1, 676, .inr (.inl f_8))), (p1, .inl (T 1, 676, .inr (.inl f_9)))] hP hD [0, 1, 2] [0, 1, 2] rfl (by decide +kernel) rfl rfl rfl hk1 hP1
    clear hP1 hD1 hFc
    generalize H1 = H at hP hS ⊢
    exact W.vret hx hb hr (fun t ht hW => ⟨⟨(f_8, f_9), rfl, ⟨hrd1.trans (congrArg (fun q9 : Int64 × Int64 => vp_updL f0 (x1.toNatClampNeg) q9.1) (show ((0 : Int64), (0 : Int64)) = addW ((f0 (x2.toNatClampNeg)), (f1 (x2.toNatClampNeg))) ((f0 (x3.toNatClampNeg)), (f1 (x3.toNatClampNeg))) from (by rw [← (show ((z_1, z_2) : Int64 × Int64) = ((f0 (x2.toNatClampNeg)), (f1 (x2.toNatClampNeg))) from by rw [ez_1, ez_2]), ← (show ((z_3, z_4) : Int64 × Int64) = ((f0 (x3.toNatClampNeg)), (f1 (x3.toNatClampNeg))) from by rw [ez_3, ez_4])]; exact (addW_no (p := (z_1, z_2)) (q := (z_3, z_4)) (by first | exact Or.inl (show z_2.toInt = 0 from by omega) | exact Or.inr (Or.inl (show z_4.toInt = 0 from by omega)) | exact Or.inr (Or.inr (Or.inl (by assumption))) | exact Or.inr (Or.inr (Or.inr (Or.inl (by assumption)))) | exact Or.inr (Or.inr (Or.inr (Or.inr (Or.inl (by assumption))))) | exact Or.inr (Or.inr (Or.inr (Or.inr (Or.inr (by assumption))))))).symm))), hrd2.trans (congrArg (fun q9 : Int64 × Int64 => vp_updL f1 (x1.toNatClampNeg) q9.2) (show ((0 : Int64), (0 : Int64)) = addW ((f0 (x2.toNatClampNeg)), (f1 (x2.toNatClampNeg))) ((f0 (x3.toNatClampNeg)), (f1 (x3.toNatClampNeg))) from (by rw [← (show ((z_1, z_2) : Int64 × Int64) = ((f0 (x2.toNatClampNeg)), (f1 (x2.toNatClampNeg))) from by rw [ez_1, ez_2]), ← (show ((z_3, z_4) : Int64 × Int64) = ((f0 (x3.toNatClampNeg)), (f1 (x3.toNatClampNeg))) from by rw [ez_3, ez_4])]; exact (addW_no (p := (z_1, z_2)) (q := (z_3, z_4)) (by first | exact Or.inl (show z_2.toInt = 0 from by omega) | exact Or.inr (Or.inl (show z_4.toInt = 0 from by omega)) | exact Or.inr (Or.inr (Or.inl (by assumption))) | exact Or.inr (Or.inr (Or.inr (Or.inl (by assumption)))) | exact Or.inr (Or.inr (Or.inr (Or.inr (Or.inl (by assumption))))) | exact Or.inr (Or.inr (Or.inr (Or.inr (Or.inr (by assumption))))))).symm)))⟩, by rw [ht]; exact hP.sub [0, 1, 2] rfl, hD.sub [0, 1, 2] (by decide +kernel) rfl⟩, hS.F ht⟩) hS.2.2 dX11_plus_135
  · rw [lcmp_eq] at c_5
    try rw [tl_0] at c_5
    refine lv_lload hx hb dX11_plus_39 (lv_at hl 0 rfl) ?_
    refine lv_lconst (v := 0) hx hb dX11_plus_41 (by decide +kernel) ?_
    refine W.lcmp hx hb dX11_plus_42 ?_
    refine lv_if_eq (tgt := 96) hx hb dX11_plus_43 (by decide +kernel) (fun c_10 => ?_) (fun c_10 => ?_)
    · rw [lcmp_eq] at c_10
      try rw [tl_0] at c_10
      refine lv_iconst (v := 0) hx hb dX11_plus_96 (by decide +kernel) ?_
      refine lv_istore (lv' := [(12, .int 0), (10, .long z_4), (8, .long z_3), (6, .long z_2), (4, .long z_1), (0, .ref h0), (1, .int x1), (2, .int x2), (3, .int x3)]) hx hb dX11_plus_97 hl (by decide +kernel) rfl (fun ls hl => ?_)
      refine lv_iload hx hb dX11_plus_99 (lv_at hl 0 rfl) ?_
      refine lv_if_eq (tgt := 128) hx hb dX11_plus_101 (by decide +kernel) (fun _ => ?_) (fun c9 => absurd c9 (by decide +kernel))
      refine lv_aload_n hx hb dX11_plus_128 rfl (lv_at hl 5 rfl) ?_
      refine lv_iload_n hx hb dX11_plus_129 rfl (lv_at hl 6 rfl) ?_
      refine lv_lconst (v := 0) hx hb dX11_plus_130 (by decide +kernel) ?_
      refine lv_lconst (v := 0) hx hb dX11_plus_131 (by decide +kernel) ?_
      have hFc := va_free (wc := [(h0, .inr (8, [v0, v1, .ref p0, .ref p1, v4, .int n])), (p0, .inl (T 1, 676, .inr (.inl f0))), (p1, .inl (T 1, 676, .inr (.inl f1)))]) hD hS hA [0, 1, 2] rfl
      refine va_callv (va_runV (As := [.int x1, .long 0, .long 0]) (rest := []) ⟨hx, hb, hml, hown, hts⟩ (c_X11_assign l D T _ h0 p0 p1 (v0) (v1) (v4) n f0 f1 x1 0 0 (by first | decide | omega)) (cwV 3 hts gX11_plus_X11_assign rfl rfl rfl hv_X11_assign ⟨Nat.le_of_ble_eq_true rfl, Nat.le_of_ble_eq_true rfl⟩) (pW_V (q := (RX11, TX11, 6)) (ci := 8) (q0 := 0) hP hE hD rfl rfl [0, 1, 2] (by decide +kernel) rfl rfl) rfl rfl hl.1 rfl (lv_room (Nat.le_of_ble_eq_true rfl)) dX11_plus_132 ⟨Nat.le_of_ble_eq_true rfl, Nat.le_of_ble_eq_true rfl⟩) hS (fun q _ h => hFc q h) hFc (fun u_12 t H1 locs ht hvm hr_11 hB hz1 hk1 hS => ?_)
      obtain ⟨f_13, f_14⟩ := u_12
      have hrd1 : f_13 = vp_updL f0 (x1.toNatClampNeg) (((0 : Int64), (0 : Int64))).1 := hr_11.1
      have hrd2 : f_14 = vp_updL f1 (x1.toNatClampNeg) (((0 : Int64), (0 : Int64))).2 := hr_11.2
      obtain ⟨hP1, hD1⟩ := hB
      rw [ht] at hP1
      obtain ⟨hP, hD⟩ := va_repl [(h0, .inr (8, [v0, v1, .ref p0, .ref p1, v4, .int n])), (p0, .inl (T 1, 676, .inr (.inl f_13))), (p1, .inl (T 1, 676, .inr (.inl f_14)))] hP hD [0, 1, 2] [0, 1, 2] rfl (by decide +kernel) rfl rfl rfl hk1 hP1
      clear hP1 hD1 hFc
      generalize H1 = H at hP hS ⊢
      exact W.vret hx hb hr (fun t ht hW => ⟨⟨(f_13, f_14), rfl, ⟨hrd1.trans (congrArg (fun q9 : Int64 × Int64 => vp_updL f0 (x1.toNatClampNeg) q9.1) (show ((0 : Int64), (0 : Int64)) = addW ((f0 (x2.toNatClampNeg)), (f1 (x2.toNatClampNeg))) ((f0 (x3.toNatClampNeg)), (f1 (x3.toNatClampNeg))) from (by rw [← (show ((z_1, z_2) : Int64 × Int64) = ((f0 (x2.toNatClampNeg)), (f1 (x2.toNatClampNeg))) from by rw [ez_1, ez_2]), ← (show ((z_3, z_4) : Int64 × Int64) = ((f0 (x3.toNatClampNeg)), (f1 (x3.toNatClampNeg))) from by rw [ez_3, ez_4])]; exact (addW_no (p := (z_1, z_2)) (q := (z_3, z_4)) (by first | exact Or.inl (show z_2.toInt = 0 from by omega) | exact Or.inr (Or.inl (show z_4.toInt = 0 from by omega)) | exact Or.inr (Or.inr (Or.inl (by assumption))) | exact Or.inr (Or.inr (Or.inr (Or.inl (by assumption)))) | exact Or.inr (Or.inr (Or.inr (Or.inr (Or.inl (by assumption))))) | exact Or.inr (Or.inr (Or.inr (Or.inr (Or.inr (by assumption))))))).symm))), hrd2.trans (congrArg (fun q9 : Int64 × Int64 => vp_updL f1 (x1.toNatClampNeg) q9.2) (show ((0 : Int64), (0 : Int64)) = addW ((f0 (x2.toNatClampNeg)), (f1 (x2.toNatClampNeg))) ((f0 (x3.toNatClampNeg)), (f1 (x3.toNatClampNeg))) from (by rw [← (show ((z_1, z_2) : Int64 × Int64) = ((f0 (x2.toNatClampNeg)), (f1 (x2.toNatClampNeg))) from by rw [ez_1, ez_2]), ← (show ((z_3, z_4) : Int64 × Int64) = ((f0 (x3.toNatClampNeg)), (f1 (x3.toNatClampNeg))) from by rw [ez_3, ez_4])]; exact (addW_no (p := (z_1, z_2)) (q := (z_3, z_4)) (by first | exact Or.inl (show z_2.toInt = 0 from by omega) | exact Or.inr (Or.inl (show z_4.toInt = 0 from by omega)) | exact Or.inr (Or.inr (Or.inl (by assumption))) | exact Or.inr (Or.inr (Or.inr (Or.inl (by assumption)))) | exact Or.inr (Or.inr (Or.inr (Or.inr (Or.inl (by assumption))))) | exact Or.inr (Or.inr (Or.inr (Or.inr (Or.inr (by assumption))))))).symm)))⟩, by rw [ht]; exact hP.sub [0, 1, 2] rfl, hD.sub [0, 1, 2] (by decide +kernel) rfl⟩, hS.F ht⟩) hS.2.2 dX11_plus_135
    · rw [lcmp_eq] at c_10
      try rw [tl_0] at c_10
      refine lv_lload hx hb dX11_plus_46 (lv_at hl 3 rfl) ?_
      refine lv_lload hx hb dX11_plus_48 (lv_at hl 0 rfl) ?_
      refine vp_callSi (W.runS (As := [.long z_1, .long z_4]) (rest := []) ⟨hx, hb, hml, hown, hts⟩ (c_X11_productFits l D T z_1 z_4) (va_cwS 2 hts gX11_plus_X11_productFits rfl rfl rfl hs_X11_productFits ⟨Nat.le_of_ble_eq_true rfl, Nat.le_of_ble_eq_true rfl⟩) (pR_S hP hE [] rfl) rfl rfl hl.1 rfl (lv_room (Nat.le_of_ble_eq_true rfl)) dX11_plus_50 ⟨Nat.le_of_ble_eq_true rfl, Nat.le_of_ble_eq_true rfl⟩) (fun r_15 hr_15 => ?_)
      rcases bool_post hr_15 with ⟨c_16, rfl⟩ | ⟨c_16, rfl⟩
      · refine lv_if_eq (tgt := 96) hx hb dX11_plus_53 (by decide +kernel) (fun c9 => absurd c9 (by decide +kernel)) (fun _ => ?_)
        refine lv_lload hx hb dX11_plus_56 (lv_at hl 1 rfl) ?_
        refine lv_lload hx hb dX11_plus_58 (lv_at hl 2 rfl) ?_
        refine vp_callSi (W.runS (As := [.long z_3, .long z_2]) (rest := []) ⟨hx, hb, hml, hown, hts⟩ (c_X11_productFits l D T z_3 z_2) (va_cwS 2 hts gX11_plus_X11_productFits rfl rfl rfl hs_X11_productFits ⟨Nat.le_of_ble_eq_true rfl, Nat.le_of_ble_eq_true rfl⟩) (pR_S hP hE [] rfl) rfl rfl hl.1 rfl (lv_room (Nat.le_of_ble_eq_true rfl)) dX11_plus_60 ⟨Nat.le_of_ble_eq_true rfl, Nat.le_of_ble_eq_true rfl⟩) (fun r_17 hr_17 => ?_)
        rcases bool_post hr_17 with ⟨c_18, rfl⟩ | ⟨c_18, rfl⟩
        · refine lv_if_eq (tgt := 96) hx hb dX11_plus_63 (by decide +kernel) (fun c9 => absurd c9 (by decide +kernel)) (fun _ => ?_)
          refine lv_lload hx hb dX11_plus_66 (lv_at hl 2 rfl) ?_
          refine lv_lload hx hb dX11_plus_68 (lv_at hl 0 rfl) ?_
          refine vp_callSi (W.runS (As := [.long z_2, .long z_4]) (rest := []) ⟨hx, hb, hml, hown, hts⟩ (c_X11_productFits l D T z_2 z_4) (va_cwS 2 hts gX11_plus_X11_productFits rfl rfl rfl hs_X11_productFits ⟨Nat.le_of_ble_eq_true rfl, Nat.le_of_ble_eq_true rfl⟩) (pR_S hP hE [] rfl) rfl rfl hl.1 rfl (lv_room (Nat.le_of_ble_eq_true rfl)) dX11_plus_70 ⟨Nat.le_of_ble_eq_true rfl, Nat.le_of_ble_eq_true rfl⟩) (fun r_19 hr_19 => ?_)
          rcases bool_post hr_19 with ⟨c_20, rfl⟩ | ⟨c_20, rfl⟩
          · refine lv_if_eq (tgt := 96) hx hb dX11_plus_73 (by decide +kernel) (fun c9 => absurd c9 (by decide +kernel)) (fun _ => ?_)
            refine lv_lload hx hb dX11_plus_76 (lv_at hl 3 rfl) ?_
            refine lv_lload hx hb dX11_plus_78 (lv_at hl 0 rfl) ?_
            refine lv_lmul hx hb dX11_plus_80 ?_
            refine lv_lload hx hb dX11_plus_81 (lv_at hl 1 rfl) ?_
            refine lv_lload hx hb dX11_plus_83 (lv_at hl 2 rfl) ?_
            refine lv_lmul hx hb dX11_plus_85 ?_
            refine vp_callSi (W.runS (As := [.long (z_1 * z_4), .long (z_3 * z_2)]) (rest := []) ⟨hx, hb, hml, hown, hts⟩ (c_X11_sumFits l D T (z_1 * z_4) (z_3 * z_2)) (va_cwS 2 hts gX11_plus_X11_sumFits rfl rfl rfl hs_X11_sumFits ⟨Nat.le_of_ble_eq_true rfl, Nat.le_of_ble_eq_true rfl⟩) (pR_S hP hE [] rfl) rfl rfl hl.1 rfl (lv_room (Nat.le_of_ble_eq_true rfl)) dX11_plus_86 ⟨Nat.le_of_ble_eq_true rfl, Nat.le_of_ble_eq_true rfl⟩) (fun r_21 hr_21 => ?_)
            rcases bool_post hr_21 with ⟨c_22, rfl⟩ | ⟨c_22, rfl⟩
            · refine lv_if_eq (tgt := 96) hx hb dX11_plus_89 (by decide +kernel) (fun c9 => absurd c9 (by decide +kernel)) (fun _ => ?_)
              refine lv_iconst (v := 1) hx hb dX11_plus_92 (by decide +kernel) ?_
              refine lv_goto (tgt := 97) hx hb dX11_plus_93 (by decide +kernel) ?_
              refine lv_istore (lv' := [(12, .int 1), (10, .long z_4), (8, .long z_3), (6, .long z_2), (4, .long z_1), (0, .ref h0), (1, .int x1), (2, .int x2), (3, .int x3)]) hx hb dX11_plus_97 hl (by decide +kernel) rfl (fun ls hl => ?_)
              refine lv_iload hx hb dX11_plus_99 (lv_at hl 0 rfl) ?_
              refine lv_if_eq (tgt := 128) hx hb dX11_plus_101 (by decide +kernel) (fun c9 => absurd c9 (by decide +kernel)) (fun _ => ?_)
              refine lv_aload_n hx hb dX11_plus_104 rfl (lv_at hl 5 rfl) ?_
              refine lv_iload_n hx hb dX11_plus_105 rfl (lv_at hl 6 rfl) ?_
              refine lv_lload hx hb dX11_plus_106 (lv_at hl 4 rfl) ?_
              refine lv_lload hx hb dX11_plus_108 (lv_at hl 1 rfl) ?_
              refine lv_lmul hx hb dX11_plus_110 ?_
              refine lv_lload hx hb dX11_plus_111 (lv_at hl 2 rfl) ?_
              refine lv_lload hx hb dX11_plus_113 (lv_at hl 3 rfl) ?_
              refine lv_lmul hx hb dX11_plus_115 ?_
              refine lv_ladd hx hb dX11_plus_116 ?_
              refine lv_lload hx hb dX11_plus_117 (lv_at hl 3 rfl) ?_
              refine lv_lload hx hb dX11_plus_119 (lv_at hl 1 rfl) ?_
              refine lv_lmul hx hb dX11_plus_121 ?_
              have hFc := va_free (wc := [(h0, .inr (8, [v0, v1, .ref p0, .ref p1, v4, .int n])), (p0, .inl (T 1, 676, .inr (.inl f0))), (p1, .inl (T 1, 676, .inr (.inl f1)))]) hD hS hA [0, 1, 2] rfl
              refine va_callv (va_runV (As := [.int x1, .long ((z_1 * z_4) + (z_3 * z_2)), .long (z_2 * z_4)]) (rest := []) ⟨hx, hb, hml, hown, hts⟩ (c_X11_reduce l D T _ h0 p0 p1 (v0) (v1) (v4) n f0 f1 x1 ((z_1 * z_4) + (z_3 * z_2)) (z_2 * z_4) (by first | decide | omega) (fitM_pos (by omega) (by omega) (by assumption))) (cwV 3 hts gX11_plus_X11_reduce rfl rfl rfl hv_X11_reduce ⟨Nat.le_of_ble_eq_true rfl, Nat.le_of_ble_eq_true rfl⟩) (pW_V (q := (RX11, TX11, 6)) (ci := 8) (q0 := 0) hP hE hD rfl rfl [0, 1, 2] (by decide +kernel) rfl rfl) rfl rfl hl.1 rfl (lv_room (Nat.le_of_ble_eq_true rfl)) dX11_plus_122 ⟨Nat.le_of_ble_eq_true rfl, Nat.le_of_ble_eq_true rfl⟩) hS (fun q _ h => hFc q h) hFc (fun u_24 t H1 locs ht hvm hr_23 hB hz1 hk1 hS => ?_)
              obtain ⟨f_25, f_26⟩ := u_24
              have hrd1 : f_25 = vp_updL f0 (x1.toNatClampNeg) (redW ((z_1 * z_4) + (z_3 * z_2)) (z_2 * z_4)).1 := hr_23.1
              have hrd2 : f_26 = vp_updL f1 (x1.toNatClampNeg) (redW ((z_1 * z_4) + (z_3 * z_2)) (z_2 * z_4)).2 := hr_23.2
              obtain ⟨hP1, hD1⟩ := hB
              rw [ht] at hP1
              obtain ⟨hP, hD⟩ := va_repl [(h0, .inr (8, [v0, v1, .ref p0, .ref p1, v4, .int n])), (p0, .inl (T 1, 676, .inr (.inl f_25))), (p1, .inl (T 1, 676, .inr (.inl f_26)))] hP hD [0, 1, 2] [0, 1, 2] rfl (by decide +kernel) rfl rfl rfl hk1 hP1
              clear hP1 hD1 hFc
              generalize H1 = H at hP hS ⊢
              refine lv_goto (tgt := 135) hx hb dX11_plus_125 (by decide +kernel) ?_
              exact W.vret hx hb hr (fun t ht hW => ⟨⟨(f_25, f_26), rfl, ⟨hrd1.trans (congrArg (fun q9 : Int64 × Int64 => vp_updL f0 (x1.toNatClampNeg) q9.1) (show redW ((z_1 * z_4) + (z_3 * z_2)) (z_2 * z_4) = addW ((f0 (x2.toNatClampNeg)), (f1 (x2.toNatClampNeg))) ((f0 (x3.toNatClampNeg)), (f1 (x3.toNatClampNeg))) from (by rw [← (show ((z_1, z_2) : Int64 × Int64) = ((f0 (x2.toNatClampNeg)), (f1 (x2.toNatClampNeg))) from by rw [ez_1, ez_2]), ← (show ((z_3, z_4) : Int64 × Int64) = ((f0 (x3.toNatClampNeg)), (f1 (x3.toNatClampNeg))) from by rw [ez_3, ez_4])]; exact (addW_yes (p := (z_1, z_2)) (q := (z_3, z_4)) (show ¬ z_2.toInt = 0 from by omega) (show ¬ z_4.toInt = 0 from by omega) (by assumption) (by assumption) (by assumption) (by assumption)).symm))), hrd2.trans (congrArg (fun q9 : Int64 × Int64 => vp_updL f1 (x1.toNatClampNeg) q9.2) (show redW ((z_1 * z_4) + (z_3 * z_2)) (z_2 * z_4) = addW ((f0 (x2.toNatClampNeg)), (f1 (x2.toNatClampNeg))) ((f0 (x3.toNatClampNeg)), (f1 (x3.toNatClampNeg))) from (by rw [← (show ((z_1, z_2) : Int64 × Int64) = ((f0 (x2.toNatClampNeg)), (f1 (x2.toNatClampNeg))) from by rw [ez_1, ez_2]), ← (show ((z_3, z_4) : Int64 × Int64) = ((f0 (x3.toNatClampNeg)), (f1 (x3.toNatClampNeg))) from by rw [ez_3, ez_4])]; exact (addW_yes (p := (z_1, z_2)) (q := (z_3, z_4)) (show ¬ z_2.toInt = 0 from by omega) (show ¬ z_4.toInt = 0 from by omega) (by assumption) (by assumption) (by assumption) (by assumption)).symm)))⟩, by rw [ht]; exact hP.sub [0, 1, 2] rfl, hD.sub [0, 1, 2] (by decide +kernel) rfl⟩, hS.F ht⟩) hS.2.2 dX11_plus_135
            · refine lv_if_eq (tgt := 96) hx hb dX11_plus_89 (by decide +kernel) (fun _ => ?_) (fun c9 => absurd c9 (by decide +kernel))
              refine lv_iconst (v := 0) hx hb dX11_plus_96 (by decide +kernel) ?_
              refine lv_istore (lv' := [(12, .int 0), (10, .long z_4), (8, .long z_3), (6, .long z_2), (4, .long z_1), (0, .ref h0), (1, .int x1), (2, .int x2), (3, .int x3)]) hx hb dX11_plus_97 hl (by decide +kernel) rfl (fun ls hl => ?_)
              refine lv_iload hx hb dX11_plus_99 (lv_at hl 0 rfl) ?_
              refine lv_if_eq (tgt := 128) hx hb dX11_plus_101 (by decide +kernel) (fun _ => ?_) (fun c9 => absurd c9 (by decide +kernel))
              refine lv_aload_n hx hb dX11_plus_128 rfl (lv_at hl 5 rfl) ?_
              refine lv_iload_n hx hb dX11_plus_129 rfl (lv_at hl 6 rfl) ?_
              refine lv_lconst (v := 0) hx hb dX11_plus_130 (by decide +kernel) ?_
              refine lv_lconst (v := 0) hx hb dX11_plus_131 (by decide +kernel) ?_
              have hFc := va_free (wc := [(h0, .inr (8, [v0, v1, .ref p0, .ref p1, v4, .int n])), (p0, .inl (T 1, 676, .inr (.inl f0))), (p1, .inl (T 1, 676, .inr (.inl f1)))]) hD hS hA [0, 1, 2] rfl
              refine va_callv (va_runV (As := [.int x1, .long 0, .long 0]) (rest := []) ⟨hx, hb, hml, hown, hts⟩ (c_X11_assign l D T _ h0 p0 p1 (v0) (v1) (v4) n f0 f1 x1 0 0 (by first | decide | omega)) (cwV 3 hts gX11_plus_X11_assign rfl rfl rfl hv_X11_assign ⟨Nat.le_of_ble_eq_true rfl, Nat.le_of_ble_eq_true rfl⟩) (pW_V (q := (RX11, TX11, 6)) (ci := 8) (q0 := 0) hP hE hD rfl rfl [0, 1, 2] (by decide +kernel) rfl rfl) rfl rfl hl.1 rfl (lv_room (Nat.le_of_ble_eq_true rfl)) dX11_plus_132 ⟨Nat.le_of_ble_eq_true rfl, Nat.le_of_ble_eq_true rfl⟩) hS (fun q _ h => hFc q h) hFc (fun u_28 t H1 locs ht hvm hr_27 hB hz1 hk1 hS => ?_)
              obtain ⟨f_29, f_30⟩ := u_28
              have hrd1 : f_29 = vp_updL f0 (x1.toNatClampNeg) (((0 : Int64), (0 : Int64))).1 := hr_27.1
              have hrd2 : f_30 = vp_updL f1 (x1.toNatClampNeg) (((0 : Int64), (0 : Int64))).2 := hr_27.2
              obtain ⟨hP1, hD1⟩ := hB
              rw [ht] at hP1
              obtain ⟨hP, hD⟩ := va_repl [(h0, .inr (8, [v0, v1, .ref p0, .ref p1, v4, .int n])), (p0, .inl (T 1, 676, .inr (.inl f_29))), (p1, .inl (T 1, 676, .inr (.inl f_30)))] hP hD [0, 1, 2] [0, 1, 2] rfl (by decide +kernel) rfl rfl rfl hk1 hP1
              clear hP1 hD1 hFc
              generalize H1 = H at hP hS ⊢
              exact W.vret hx hb hr (fun t ht hW => ⟨⟨(f_29, f_30), rfl, ⟨hrd1.trans (congrArg (fun q9 : Int64 × Int64 => vp_updL f0 (x1.toNatClampNeg) q9.1) (show ((0 : Int64), (0 : Int64)) = addW ((f0 (x2.toNatClampNeg)), (f1 (x2.toNatClampNeg))) ((f0 (x3.toNatClampNeg)), (f1 (x3.toNatClampNeg))) from (by rw [← (show ((z_1, z_2) : Int64 × Int64) = ((f0 (x2.toNatClampNeg)), (f1 (x2.toNatClampNeg))) from by rw [ez_1, ez_2]), ← (show ((z_3, z_4) : Int64 × Int64) = ((f0 (x3.toNatClampNeg)), (f1 (x3.toNatClampNeg))) from by rw [ez_3, ez_4])]; exact (addW_no (p := (z_1, z_2)) (q := (z_3, z_4)) (by first | exact Or.inl (show z_2.toInt = 0 from by omega) | exact Or.inr (Or.inl (show z_4.toInt = 0 from by omega)) | exact Or.inr (Or.inr (Or.inl (by assumption))) | exact Or.inr (Or.inr (Or.inr (Or.inl (by assumption)))) | exact Or.inr (Or.inr (Or.inr (Or.inr (Or.inl (by assumption))))) | exact Or.inr (Or.inr (Or.inr (Or.inr (Or.inr (by assumption))))))).symm))), hrd2.trans (congrArg (fun q9 : Int64 × Int64 => vp_updL f1 (x1.toNatClampNeg) q9.2) (show ((0 : Int64), (0 : Int64)) = addW ((f0 (x2.toNatClampNeg)), (f1 (x2.toNatClampNeg))) ((f0 (x3.toNatClampNeg)), (f1 (x3.toNatClampNeg))) from (by rw [← (show ((z_1, z_2) : Int64 × Int64) = ((f0 (x2.toNatClampNeg)), (f1 (x2.toNatClampNeg))) from by rw [ez_1, ez_2]), ← (show ((z_3, z_4) : Int64 × Int64) = ((f0 (x3.toNatClampNeg)), (f1 (x3.toNatClampNeg))) from by rw [ez_3, ez_4])]; exact (addW_no (p := (z_1, z_2)) (q := (z_3, z_4)) (by first | exact Or.inl (show z_2.toInt = 0 from by omega) | exact Or.inr (Or.inl (show z_4.toInt = 0 from by omega)) | exact Or.inr (Or.inr (Or.inl (by assumption))) | exact Or.inr (Or.inr (Or.inr (Or.inl (by assumption)))) | exact Or.inr (Or.inr (Or.inr (Or.inr (Or.inl (by assumption))))) | exact Or.inr (Or.inr (Or.inr (Or.inr (Or.inr (by assumption))))))).symm)))⟩, by rw [ht]; exact hP.sub [0, 1, 2] rfl, hD.sub [0, 1, 2] (by decide +kernel) rfl⟩, hS.F ht⟩) hS.2.2 dX11_plus_135
          · refine lv_if_eq (tgt := 96) hx hb dX11_plus_73 (by decide +kernel) (fun _ => ?_) (fun c9 => absurd c9 (by decide +kernel))
            refine lv_iconst (v := 0) hx hb dX11_plus_96 (by decide +kernel) ?_
            refine lv_istore (lv' := [(12, .int 0), (10, .long z_4), (8, .long z_3), (6, .long z_2), (4, .long z_1), (0, .ref h0), (1, .int x1), (2, .int x2), (3, .int x3)]) hx hb dX11_plus_97 hl (by decide +kernel) rfl (fun ls hl => ?_)
            refine lv_iload hx hb dX11_plus_99 (lv_at hl 0 rfl) ?_
            refine lv_if_eq (tgt := 128) hx hb dX11_plus_101 (by decide +kernel) (fun _ => ?_) (fun c9 => absurd c9 (by decide +kernel))
            refine lv_aload_n hx hb dX11_plus_128 rfl (lv_at hl 5 rfl) ?_
            refine lv_iload_n hx hb dX11_plus_129 rfl (lv_at hl 6 rfl) ?_
            refine lv_lconst (v := 0) hx hb dX11_plus_130 (by decide +kernel) ?_
            refine lv_lconst (v := 0) hx hb dX11_plus_131 (by decide +kernel) ?_
            have hFc := va_free (wc := [(h0, .inr (8, [v0, v1, .ref p0, .ref p1, v4, .int n])), (p0, .inl (T 1, 676, .inr (.inl f0))), (p1, .inl (T 1, 676, .inr (.inl f1)))]) hD hS hA [0, 1, 2] rfl
            refine va_callv (va_runV (As := [.int x1, .long 0, .long 0]) (rest := []) ⟨hx, hb, hml, hown, hts⟩ (c_X11_assign l D T _ h0 p0 p1 (v0) (v1) (v4) n f0 f1 x1 0 0 (by first | decide | omega)) (cwV 3 hts gX11_plus_X11_assign rfl rfl rfl hv_X11_assign ⟨Nat.le_of_ble_eq_true rfl, Nat.le_of_ble_eq_true rfl⟩) (pW_V (q := (RX11, TX11, 6)) (ci := 8) (q0 := 0) hP hE hD rfl rfl [0, 1, 2] (by decide +kernel) rfl rfl) rfl rfl hl.1 rfl (lv_room (Nat.le_of_ble_eq_true rfl)) dX11_plus_132 ⟨Nat.le_of_ble_eq_true rfl, Nat.le_of_ble_eq_true rfl⟩) hS (fun q _ h => hFc q h) hFc (fun u_32 t H1 locs ht hvm hr_31 hB hz1 hk1 hS => ?_)
            obtain ⟨f_33, f_34⟩ := u_32
            have hrd1 : f_33 = vp_updL f0 (x1.toNatClampNeg) (((0 : Int64), (0 : Int64))).1 := hr_31.1
            have hrd2 : f_34 = vp_updL f1 (x1.toNatClampNeg) (((0 : Int64), (0 : Int64))).2 := hr_31.2
            obtain ⟨hP1, hD1⟩ := hB
            rw [ht] at hP1
            obtain ⟨hP, hD⟩ := va_repl [(h0, .inr (8, [v0, v1, .ref p0, .ref p1, v4, .int n])), (p0, .inl (T 1, 676, .inr (.inl f_33))), (p1, .inl (T 1, 676, .inr (.inl f_34)))] hP hD [0, 1, 2] [0, 1, 2] rfl (by decide +kernel) rfl rfl rfl hk1 hP1
            clear hP1 hD1 hFc
            generalize H1 = H at hP hS ⊢
            exact W.vret hx hb hr (fun t ht hW => ⟨⟨(f_33, f_34), rfl, ⟨hrd1.trans (congrArg (fun q9 : Int64 × Int64 => vp_updL f0 (x1.toNatClampNeg) q9.1) (show ((0 : Int64), (0 : Int64)) = addW ((f0 (x2.toNatClampNeg)), (f1 (x2.toNatClampNeg))) ((f0 (x3.toNatClampNeg)), (f1 (x3.toNatClampNeg))) from (by rw [← (show ((z_1, z_2) : Int64 × Int64) = ((f0 (x2.toNatClampNeg)), (f1 (x2.toNatClampNeg))) from by rw [ez_1, ez_2]), ← (show ((z_3, z_4) : Int64 × Int64) = ((f0 (x3.toNatClampNeg)), (f1 (x3.toNatClampNeg))) from by rw [ez_3, ez_4])]; exact (addW_no (p := (z_1, z_2)) (q := (z_3, z_4)) (by first | exact Or.inl (show z_2.toInt = 0 from by omega) | exact Or.inr (Or.inl (show z_4.toInt = 0 from by omega)) | exact Or.inr (Or.inr (Or.inl (by assumption))) | exact Or.inr (Or.inr (Or.inr (Or.inl (by assumption)))) | exact Or.inr (Or.inr (Or.inr (Or.inr (Or.inl (by assumption))))) | exact Or.inr (Or.inr (Or.inr (Or.inr (Or.inr (by assumption))))))).symm))), hrd2.trans (congrArg (fun q9 : Int64 × Int64 => vp_updL f1 (x1.toNatClampNeg) q9.2) (show ((0 : Int64), (0 : Int64)) = addW ((f0 (x2.toNatClampNeg)), (f1 (x2.toNatClampNeg))) ((f0 (x3.toNatClampNeg)), (f1 (x3.toNatClampNeg))) from (by rw [← (show ((z_1, z_2) : Int64 × Int64) = ((f0 (x2.toNatClampNeg)), (f1 (x2.toNatClampNeg))) from by rw [ez_1, ez_2]), ← (show ((z_3, z_4) : Int64 × Int64) = ((f0 (x3.toNatClampNeg)), (f1 (x3.toNatClampNeg))) from by rw [ez_3, ez_4])]; exact (addW_no (p := (z_1, z_2)) (q := (z_3, z_4)) (by first | exact Or.inl (show z_2.toInt = 0 from by omega) | exact Or.inr (Or.inl (show z_4.toInt = 0 from by omega)) | exact Or.inr (Or.inr (Or.inl (by assumption))) | exact Or.inr (Or.inr (Or.inr (Or.inl (by assumption)))) | exact Or.inr (Or.inr (Or.inr (Or.inr (Or.inl (by assumption))))) | exact Or.inr (Or.inr (Or.inr (Or.inr (Or.inr (by assumption))))))).symm)))⟩, by rw [ht]; exact hP.sub [0, 1, 2] rfl, hD.sub [0, 1, 2] (by decide +kernel) rfl⟩, hS.F ht⟩) hS.2.2 dX11_plus_135
        · refine lv_if_eq (tgt := 96) hx hb dX11_plus_63 (by decide +kernel) (fun _ => ?_) (fun c9 => absurd c9 (by decide +kernel))
          refine lv_iconst (v := 0) hx hb dX11_plus_96 (by decide +kernel) ?_
          refine lv_istore (lv' := [(12, .int 0), (10, .long z_4), (8, .long z_3), (6, .long z_2), (4, .long z_1), (0, .ref h0), (1, .int x1), (2, .int x2), (3, .int x3)]) hx hb dX11_plus_97 hl (by decide +kernel) rfl (fun ls hl => ?_)
          refine lv_iload hx hb dX11_plus_99 (lv_at hl 0 rfl) ?_
          refine lv_if_eq (tgt := 128) hx hb dX11_plus_101 (by decide +kernel) (fun _ => ?_) (fun c9 => absurd c9 (by decide +kernel))
          refine lv_aload_n hx hb dX11_plus_128 rfl (lv_at hl 5 rfl) ?_
          refine lv_iload_n hx hb dX11_plus_129 rfl (lv_at hl 6 rfl) ?_
          refine lv_lconst (v := 0) hx hb dX11_plus_130 (by decide +kernel) ?_
          refine lv_lconst (v := 0) hx hb dX11_plus_131 (by decide +kernel) ?_
          have hFc := va_free (wc := [(h0, .inr (8, [v0, v1, .ref p0, .ref p1, v4, .int n])), (p0, .inl (T 1, 676, .inr (.inl f0))), (p1, .inl (T 1, 676, .inr (.inl f1)))]) hD hS hA [0, 1, 2] rfl
          refine va_callv (va_runV (As := [.int x1, .long 0, .long 0]) (rest := []) ⟨hx, hb, hml, hown, hts⟩ (c_X11_assign l D T _ h0 p0 p1 (v0) (v1) (v4) n f0 f1 x1 0 0 (by first | decide | omega)) (cwV 3 hts gX11_plus_X11_assign rfl rfl rfl hv_X11_assign ⟨Nat.le_of_ble_eq_true rfl, Nat.le_of_ble_eq_true rfl⟩) (pW_V (q := (RX11, TX11, 6)) (ci := 8) (q0 := 0) hP hE hD rfl rfl [0, 1, 2] (by decide +kernel) rfl rfl) rfl rfl hl.1 rfl (lv_room (Nat.le_of_ble_eq_true rfl)) dX11_plus_132 ⟨Nat.le_of_ble_eq_true rfl, Nat.le_of_ble_eq_true rfl⟩) hS (fun q _ h => hFc q h) hFc (fun u_36 t H1 locs ht hvm hr_35 hB hz1 hk1 hS => ?_)
          obtain ⟨f_37, f_38⟩ := u_36
          have hrd1 : f_37 = vp_updL f0 (x1.toNatClampNeg) (((0 : Int64), (0 : Int64))).1 := hr_35.1
          have hrd2 : f_38 = vp_updL f1 (x1.toNatClampNeg) (((0 : Int64), (0 : Int64))).2 := hr_35.2
          obtain ⟨hP1, hD1⟩ := hB
          rw [ht] at hP1
          obtain ⟨hP, hD⟩ := va_repl [(h0, .inr (8, [v0, v1, .ref p0, .ref p1, v4, .int n])), (p0, .inl (T 1, 676, .inr (.inl f_37))), (p1, .inl (T 1, 676, .inr (.inl f_38)))] hP hD [0, 1, 2] [0, 1, 2] rfl (by decide +kernel) rfl rfl rfl hk1 hP1
          clear hP1 hD1 hFc
          generalize H1 = H at hP hS ⊢
          exact W.vret hx hb hr (fun t ht hW => ⟨⟨(f_37, f_38), rfl, ⟨hrd1.trans (congrArg (fun q9 : Int64 × Int64 => vp_updL f0 (x1.toNatClampNeg) q9.1) (show ((0 : Int64), (0 : Int64)) = addW ((f0 (x2.toNatClampNeg)), (f1 (x2.toNatClampNeg))) ((f0 (x3.toNatClampNeg)), (f1 (x3.toNatClampNeg))) from (by rw [← (show ((z_1, z_2) : Int64 × Int64) = ((f0 (x2.toNatClampNeg)), (f1 (x2.toNatClampNeg))) from by rw [ez_1, ez_2]), ← (show ((z_3, z_4) : Int64 × Int64) = ((f0 (x3.toNatClampNeg)), (f1 (x3.toNatClampNeg))) from by rw [ez_3, ez_4])]; exact (addW_no (p := (z_1, z_2)) (q := (z_3, z_4)) (by first | exact Or.inl (show z_2.toInt = 0 from by omega) | exact Or.inr (Or.inl (show z_4.toInt = 0 from by omega)) | exact Or.inr (Or.inr (Or.inl (by assumption))) | exact Or.inr (Or.inr (Or.inr (Or.inl (by assumption)))) | exact Or.inr (Or.inr (Or.inr (Or.inr (Or.inl (by assumption))))) | exact Or.inr (Or.inr (Or.inr (Or.inr (Or.inr (by assumption))))))).symm))), hrd2.trans (congrArg (fun q9 : Int64 × Int64 => vp_updL f1 (x1.toNatClampNeg) q9.2) (show ((0 : Int64), (0 : Int64)) = addW ((f0 (x2.toNatClampNeg)), (f1 (x2.toNatClampNeg))) ((f0 (x3.toNatClampNeg)), (f1 (x3.toNatClampNeg))) from (by rw [← (show ((z_1, z_2) : Int64 × Int64) = ((f0 (x2.toNatClampNeg)), (f1 (x2.toNatClampNeg))) from by rw [ez_1, ez_2]), ← (show ((z_3, z_4) : Int64 × Int64) = ((f0 (x3.toNatClampNeg)), (f1 (x3.toNatClampNeg))) from by rw [ez_3, ez_4])]; exact (addW_no (p := (z_1, z_2)) (q := (z_3, z_4)) (by first | exact Or.inl (show z_2.toInt = 0 from by omega) | exact Or.inr (Or.inl (show z_4.toInt = 0 from by omega)) | exact Or.inr (Or.inr (Or.inl (by assumption))) | exact Or.inr (Or.inr (Or.inr (Or.inl (by assumption)))) | exact Or.inr (Or.inr (Or.inr (Or.inr (Or.inl (by assumption))))) | exact Or.inr (Or.inr (Or.inr (Or.inr (Or.inr (by assumption))))))).symm)))⟩, by rw [ht]; exact hP.sub [0, 1, 2] rfl, hD.sub [0, 1, 2] (by decide +kernel) rfl⟩, hS.F ht⟩) hS.2.2 dX11_plus_135
      · refine lv_if_eq (tgt := 96) hx hb dX11_plus_53 (by decide +kernel) (fun _ => ?_) (fun c9 => absurd c9 (by decide +kernel))
        refine lv_iconst (v := 0) hx hb dX11_plus_96 (by decide +kernel) ?_
        refine lv_istore (lv' := [(12, .int 0), (10, .long z_4), (8, .long z_3), (6, .long z_2), (4, .long z_1), (0, .ref h0), (1, .int x1), (2, .int x2), (3, .int x3)]) hx hb dX11_plus_97 hl (by decide +kernel) rfl (fun ls hl => ?_)
        refine lv_iload hx hb dX11_plus_99 (lv_at hl 0 rfl) ?_
        refine lv_if_eq (tgt := 128) hx hb dX11_plus_101 (by decide +kernel) (fun _ => ?_) (fun c9 => absurd c9 (by decide +kernel))
        refine lv_aload_n hx hb dX11_plus_128 rfl (lv_at hl 5 rfl) ?_
        refine lv_iload_n hx hb dX11_plus_129 rfl (lv_at hl 6 rfl) ?_
        refine lv_lconst (v := 0) hx hb dX11_plus_130 (by decide +kernel) ?_
        refine lv_lconst (v := 0) hx hb dX11_plus_131 (by decide +kernel) ?_
        have hFc := va_free (wc := [(h0, .inr (8, [v0, v1, .ref p0, .ref p1, v4, .int n])), (p0, .inl (T 1, 676, .inr (.inl f0))), (p1, .inl (T 1, 676, .inr (.inl f1)))]) hD hS hA [0, 1, 2] rfl
        refine va_callv (va_runV (As := [.int x1, .long 0, .long 0]) (rest := []) ⟨hx, hb, hml, hown, hts⟩ (c_X11_assign l D T _ h0 p0 p1 (v0) (v1) (v4) n f0 f1 x1 0 0 (by first | decide | omega)) (cwV 3 hts gX11_plus_X11_assign rfl rfl rfl hv_X11_assign ⟨Nat.le_of_ble_eq_true rfl, Nat.le_of_ble_eq_true rfl⟩) (pW_V (q := (RX11, TX11, 6)) (ci := 8) (q0 := 0) hP hE hD rfl rfl [0, 1, 2] (by decide +kernel) rfl rfl) rfl rfl hl.1 rfl (lv_room (Nat.le_of_ble_eq_true rfl)) dX11_plus_132 ⟨Nat.le_of_ble_eq_true rfl, Nat.le_of_ble_eq_true rfl⟩) hS (fun q _ h => hFc q h) hFc (fun u_40 t H1 locs ht hvm hr_39 hB hz1 hk1 hS => ?_)
        obtain ⟨f_41, f_42⟩ := u_40
        have hrd1 : f_41 = vp_updL f0 (x1.toNatClampNeg) (((0 : Int64), (0 : Int64))).1 := hr_39.1
        have hrd2 : f_42 = vp_updL f1 (x1.toNatClampNeg) (((0 : Int64), (0 : Int64))).2 := hr_39.2
        obtain ⟨hP1, hD1⟩ := hB
        rw [ht] at hP1
        obtain ⟨hP, hD⟩ := va_repl [(h0, .inr (8, [v0, v1, .ref p0, .ref p1, v4, .int n])), (p0, .inl (T 1, 676, .inr (.inl f_41))), (p1, .inl (T 1, 676, .inr (.inl f_42)))] hP hD [0, 1, 2] [0, 1, 2] rfl (by decide +kernel) rfl rfl rfl hk1 hP1
        clear hP1 hD1 hFc
        generalize H1 = H at hP hS ⊢
        exact W.vret hx hb hr (fun t ht hW => ⟨⟨(f_41, f_42), rfl, ⟨hrd1.trans (congrArg (fun q9 : Int64 × Int64 => vp_updL f0 (x1.toNatClampNeg) q9.1) (show ((0 : Int64), (0 : Int64)) = addW ((f0 (x2.toNatClampNeg)), (f1 (x2.toNatClampNeg))) ((f0 (x3.toNatClampNeg)), (f1 (x3.toNatClampNeg))) from (by rw [← (show ((z_1, z_2) : Int64 × Int64) = ((f0 (x2.toNatClampNeg)), (f1 (x2.toNatClampNeg))) from by rw [ez_1, ez_2]), ← (show ((z_3, z_4) : Int64 × Int64) = ((f0 (x3.toNatClampNeg)), (f1 (x3.toNatClampNeg))) from by rw [ez_3, ez_4])]; exact (addW_no (p := (z_1, z_2)) (q := (z_3, z_4)) (by first | exact Or.inl (show z_2.toInt = 0 from by omega) | exact Or.inr (Or.inl (show z_4.toInt = 0 from by omega)) | exact Or.inr (Or.inr (Or.inl (by assumption))) | exact Or.inr (Or.inr (Or.inr (Or.inl (by assumption)))) | exact Or.inr (Or.inr (Or.inr (Or.inr (Or.inl (by assumption))))) | exact Or.inr (Or.inr (Or.inr (Or.inr (Or.inr (by assumption))))))).symm))), hrd2.trans (congrArg (fun q9 : Int64 × Int64 => vp_updL f1 (x1.toNatClampNeg) q9.2) (show ((0 : Int64), (0 : Int64)) = addW ((f0 (x2.toNatClampNeg)), (f1 (x2.toNatClampNeg))) ((f0 (x3.toNatClampNeg)), (f1 (x3.toNatClampNeg))) from (by rw [← (show ((z_1, z_2) : Int64 × Int64) = ((f0 (x2.toNatClampNeg)), (f1 (x2.toNatClampNeg))) from by rw [ez_1, ez_2]), ← (show ((z_3, z_4) : Int64 × Int64) = ((f0 (x3.toNatClampNeg)), (f1 (x3.toNatClampNeg))) from by rw [ez_3, ez_4])]; exact (addW_no (p := (z_1, z_2)) (q := (z_3, z_4)) (by first | exact Or.inl (show z_2.toInt = 0 from by omega) | exact Or.inr (Or.inl (show z_4.toInt = 0 from by omega)) | exact Or.inr (Or.inr (Or.inl (by assumption))) | exact Or.inr (Or.inr (Or.inr (Or.inl (by assumption)))) | exact Or.inr (Or.inr (Or.inr (Or.inr (Or.inl (by assumption))))) | exact Or.inr (Or.inr (Or.inr (Or.inr (Or.inr (by assumption))))))).symm)))⟩, by rw [ht]; exact hP.sub [0, 1, 2] rfl, hD.sub [0, 1, 2] (by decide +kernel) rfl⟩, hS.F ht⟩) hS.2.2 dX11_plus_135
theorem dX11_order_0 : decode cX11_order 0 = .ok (.aload_n 0, 1) := by decide +kernel
theorem dX11_order_1 : decode cX11_order 1 = .ok (.getfield 11, 3) := by decide +kernel
theorem dX11_order_101 : decode cX11_order 101 = .ok (.ineg, 1) := by decide +kernel
theorem dX11_order_102 : decode cX11_order 102 = .ok (.ireturn, 1) := by decide +kernel
theorem dX11_order_103 : decode cX11_order 103 = .ok (.lload_n 3, 1) := by decide +kernel
theorem dX11_order_104 : decode cX11_order 104 = .ok (.lload 5, 2) := by decide +kernel
theorem dX11_order_106 : decode cX11_order 106 = .ok (.invokestatic 164, 3) := by decide +kernel
theorem dX11_order_109 : decode cX11_order 109 = .ok (.lstore 17, 2) := by decide +kernel
theorem dX11_order_11 : decode cX11_order 11 = .ok (.iload_n 1, 1) := by decide +kernel
theorem dX11_order_111 : decode cX11_order 111 = .ok (.lload 7, 2) := by decide +kernel
theorem dX11_order_113 : decode cX11_order 113 = .ok (.lload 9, 2) := by decide +kernel
theorem dX11_order_115 : decode cX11_order 115 = .ok (.invokestatic 164, 3) := by decide +kernel
theorem dX11_order_118 : decode cX11_order 118 = .ok (.lstore 19, 2) := by decide +kernel
theorem dX11_order_12 : decode cX11_order 12 = .ok (.laload, 1) := by decide +kernel
theorem dX11_order_120 : decode cX11_order 120 = .ok (.lload 17, 2) := by decide +kernel
theorem dX11_order_122 : decode cX11_order 122 = .ok (.lconst 0, 1) := by decide +kernel
theorem dX11_order_123 : decode cX11_order 123 = .ok (.lcmp, 1) := by decide +kernel
theorem dX11_order_124 : decode cX11_order 124 = .ok (.ifCond .ne 12, 3) := by decide +kernel
theorem dX11_order_127 : decode cX11_order 127 = .ok (.lload 19, 2) := by decide +kernel
theorem dX11_order_129 : decode cX11_order 129 = .ok (.lconst 0, 1) := by decide +kernel
theorem dX11_order_13 : decode cX11_order 13 = .ok (.lstore 5, 2) := by decide +kernel
theorem dX11_order_130 : decode cX11_order 130 = .ok (.lcmp, 1) := by decide +kernel
theorem dX11_order_131 : decode cX11_order 131 = .ok (.ifCond .ne 5, 3) := by decide +kernel
theorem dX11_order_134 : decode cX11_order 134 = .ok (.iconst 0, 1) := by decide +kernel
theorem dX11_order_135 : decode cX11_order 135 = .ok (.ireturn, 1) := by decide +kernel
theorem dX11_order_136 : decode cX11_order 136 = .ok (.lload 17, 2) := by decide +kernel
theorem dX11_order_138 : decode cX11_order 138 = .ok (.lconst 0, 1) := by decide +kernel
theorem dX11_order_139 : decode cX11_order 139 = .ok (.lcmp, 1) := by decide +kernel
theorem dX11_order_140 : decode cX11_order 140 = .ok (.ifCond .eq 10, 3) := by decide +kernel
theorem dX11_order_143 : decode cX11_order 143 = .ok (.lload 19, 2) := by decide +kernel
theorem dX11_order_145 : decode cX11_order 145 = .ok (.lconst 0, 1) := by decide +kernel
theorem dX11_order_146 : decode cX11_order 146 = .ok (.lcmp, 1) := by decide +kernel
theorem dX11_order_147 : decode cX11_order 147 = .ok (.ifCond .ne 19, 3) := by decide +kernel
theorem dX11_order_15 : decode cX11_order 15 = .ok (.aload_n 0, 1) := by decide +kernel
theorem dX11_order_150 : decode cX11_order 150 = .ok (.lload 19, 2) := by decide +kernel
theorem dX11_order_152 : decode cX11_order 152 = .ok (.lconst 0, 1) := by decide +kernel
theorem dX11_order_153 : decode cX11_order 153 = .ok (.lcmp, 1) := by decide +kernel
theorem dX11_order_154 : decode cX11_order 154 = .ok (.ifCond .ne 8, 3) := by decide +kernel
theorem dX11_order_157 : decode cX11_order 157 = .ok (.iload 11, 2) := by decide +kernel
theorem dX11_order_159 : decode cX11_order 159 = .ok (.goto 6, 3) := by decide +kernel
theorem dX11_order_16 : decode cX11_order 16 = .ok (.getfield 11, 3) := by decide +kernel
theorem dX11_order_162 : decode cX11_order 162 = .ok (.iload 11, 2) := by decide +kernel
theorem dX11_order_164 : decode cX11_order 164 = .ok (.ineg, 1) := by decide +kernel
theorem dX11_order_165 : decode cX11_order 165 = .ok (.ireturn, 1) := by decide +kernel
theorem dX11_order_166 : decode cX11_order 166 = .ok (.lload 5, 2) := by decide +kernel
theorem dX11_order_168 : decode cX11_order 168 = .ok (.lstore_n 3, 1) := by decide +kernel
theorem dX11_order_169 : decode cX11_order 169 = .ok (.lload 17, 2) := by decide +kernel
theorem dX11_order_171 : decode cX11_order 171 = .ok (.lstore 5, 2) := by decide +kernel
theorem dX11_order_173 : decode cX11_order 173 = .ok (.lload 9, 2) := by decide +kernel
theorem dX11_order_175 : decode cX11_order 175 = .ok (.lstore 7, 2) := by decide +kernel
theorem dX11_order_177 : decode cX11_order 177 = .ok (.lload 19, 2) := by decide +kernel
theorem dX11_order_179 : decode cX11_order 179 = .ok (.lstore 9, 2) := by decide +kernel
theorem dX11_order_181 : decode cX11_order 181 = .ok (.iload 11, 2) := by decide +kernel
theorem dX11_order_183 : decode cX11_order 183 = .ok (.ineg, 1) := by decide +kernel
theorem dX11_order_184 : decode cX11_order 184 = .ok (.istore 11, 2) := by decide +kernel
theorem dX11_order_186 : decode cX11_order 186 = .ok (.iinc 12 1, 3) := by decide +kernel
theorem dX11_order_189 : decode cX11_order 189 = .ok (.goto (-152), 3) := by decide +kernel
theorem dX11_order_19 : decode cX11_order 19 = .ok (.iload_n 2, 1) := by decide +kernel
theorem dX11_order_192 : decode cX11_order 192 = .ok (.iconst 0, 1) := by decide +kernel
theorem dX11_order_193 : decode cX11_order 193 = .ok (.ireturn, 1) := by decide +kernel
theorem dX11_order_20 : decode cX11_order 20 = .ok (.laload, 1) := by decide +kernel
theorem dX11_order_21 : decode cX11_order 21 = .ok (.lstore 7, 2) := by decide +kernel
theorem dX11_order_23 : decode cX11_order 23 = .ok (.aload_n 0, 1) := by decide +kernel
theorem dX11_order_24 : decode cX11_order 24 = .ok (.getfield 15, 3) := by decide +kernel
theorem dX11_order_27 : decode cX11_order 27 = .ok (.iload_n 2, 1) := by decide +kernel
theorem dX11_order_28 : decode cX11_order 28 = .ok (.laload, 1) := by decide +kernel
theorem dX11_order_29 : decode cX11_order 29 = .ok (.lstore 9, 2) := by decide +kernel
theorem dX11_order_31 : decode cX11_order 31 = .ok (.iconst 1, 1) := by decide +kernel
theorem dX11_order_32 : decode cX11_order 32 = .ok (.istore 11, 2) := by decide +kernel
theorem dX11_order_34 : decode cX11_order 34 = .ok (.iconst 0, 1) := by decide +kernel
theorem dX11_order_35 : decode cX11_order 35 = .ok (.istore 12, 2) := by decide +kernel
theorem dX11_order_37 : decode cX11_order 37 = .ok (.iload 12, 2) := by decide +kernel
theorem dX11_order_39 : decode cX11_order 39 = .ok (.sipush 200, 3) := by decide +kernel
theorem dX11_order_4 : decode cX11_order 4 = .ok (.iload_n 1, 1) := by decide +kernel
theorem dX11_order_42 : decode cX11_order 42 = .ok (.if_icmp .ge 150, 3) := by decide +kernel
theorem dX11_order_45 : decode cX11_order 45 = .ok (.lload 5, 2) := by decide +kernel
theorem dX11_order_47 : decode cX11_order 47 = .ok (.lconst 0, 1) := by decide +kernel
theorem dX11_order_48 : decode cX11_order 48 = .ok (.lcmp, 1) := by decide +kernel
theorem dX11_order_49 : decode cX11_order 49 = .ok (.ifCond .le 10, 3) := by decide +kernel
theorem dX11_order_5 : decode cX11_order 5 = .ok (.laload, 1) := by decide +kernel
theorem dX11_order_52 : decode cX11_order 52 = .ok (.lload 9, 2) := by decide +kernel
theorem dX11_order_54 : decode cX11_order 54 = .ok (.lconst 0, 1) := by decide +kernel
theorem dX11_order_55 : decode cX11_order 55 = .ok (.lcmp, 1) := by decide +kernel
theorem dX11_order_56 : decode cX11_order 56 = .ok (.ifCond .gt 5, 3) := by decide +kernel
theorem dX11_order_59 : decode cX11_order 59 = .ok (.iconst 0, 1) := by decide +kernel
theorem dX11_order_6 : decode cX11_order 6 = .ok (.lstore_n 3, 1) := by decide +kernel
theorem dX11_order_60 : decode cX11_order 60 = .ok (.ireturn, 1) := by decide +kernel
theorem dX11_order_61 : decode cX11_order 61 = .ok (.lload_n 3, 1) := by decide +kernel
theorem dX11_order_62 : decode cX11_order 62 = .ok (.lload 5, 2) := by decide +kernel
theorem dX11_order_64 : decode cX11_order 64 = .ok (.invokestatic 160, 3) := by decide +kernel
theorem dX11_order_67 : decode cX11_order 67 = .ok (.lstore 13, 2) := by decide +kernel
theorem dX11_order_69 : decode cX11_order 69 = .ok (.lload 7, 2) := by decide +kernel
theorem dX11_order_7 : decode cX11_order 7 = .ok (.aload_n 0, 1) := by decide +kernel
theorem dX11_order_71 : decode cX11_order 71 = .ok (.lload 9, 2) := by decide +kernel
theorem dX11_order_73 : decode cX11_order 73 = .ok (.invokestatic 160, 3) := by decide +kernel
theorem dX11_order_76 : decode cX11_order 76 = .ok (.lstore 15, 2) := by decide +kernel
theorem dX11_order_78 : decode cX11_order 78 = .ok (.lload 13, 2) := by decide +kernel
theorem dX11_order_8 : decode cX11_order 8 = .ok (.getfield 15, 3) := by decide +kernel
theorem dX11_order_80 : decode cX11_order 80 = .ok (.lload 15, 2) := by decide +kernel
theorem dX11_order_82 : decode cX11_order 82 = .ok (.lcmp, 1) := by decide +kernel
theorem dX11_order_83 : decode cX11_order 83 = .ok (.ifCond .eq 20, 3) := by decide +kernel
theorem dX11_order_86 : decode cX11_order 86 = .ok (.lload 13, 2) := by decide +kernel
theorem dX11_order_88 : decode cX11_order 88 = .ok (.lload 15, 2) := by decide +kernel
theorem dX11_order_90 : decode cX11_order 90 = .ok (.lcmp, 1) := by decide +kernel
theorem dX11_order_91 : decode cX11_order 91 = .ok (.ifCond .le 8, 3) := by decide +kernel
theorem dX11_order_94 : decode cX11_order 94 = .ok (.iload 11, 2) := by decide +kernel
theorem dX11_order_96 : decode cX11_order 96 = .ok (.goto 6, 3) := by decide +kernel
theorem dX11_order_99 : decode cX11_order 99 = .ok (.iload 11, 2) := by decide +kernel
set_option maxRecDepth 20000 in
theorem ggX11_order_J9_floorDiv_f86c9 : GoodIn wsX11_order wsJ9_floorDiv_f86c9 := goodIn_r _ [6] rfl (by decide +kernel)
set_option maxRecDepth 20000 in
theorem ggX11_order_J9_floorMod_f86c9 : GoodIn wsX11_order wsJ9_floorMod_f86c9 := goodIn_r _ [9] rfl (by decide +kernel)
set_option maxRecDepth 20000 in
theorem gX11_order_J9_floorDiv_f86c9 : GoodIn wsX11_order (va_wsS RX11 160 yJ9_floorDiv_f86c9 wsJ9_floorDiv_f86c9) := goodIn_app (goodIn_of _ (by decide +kernel)) ggX11_order_J9_floorDiv_f86c9
set_option maxRecDepth 20000 in
theorem gX11_order_J9_floorMod_f86c9 : GoodIn wsX11_order (va_wsS RX11 164 yJ9_floorMod_f86c9 wsJ9_floorMod_f86c9) := goodIn_app (goodIn_of _ (by decide +kernel)) ggX11_order_J9_floorMod_f86c9
theorem hs_J9_floorDiv_f86c9 : yJ9_floorDiv_f86c9.cls ≠ "java/lang/invoke/MethodHandle" ∧ yJ9_floorDiv_f86c9.cls ≠ "java/lang/invoke/VarHandle" ∧ (parseMethodDescriptor yJ9_floorDiv_f86c9.desc).map (fun d => d.parameters.length) = some 2 := by decide +kernel
theorem hs_J9_floorMod_f86c9 : yJ9_floorMod_f86c9.cls ≠ "java/lang/invoke/MethodHandle" ∧ yJ9_floorMod_f86c9.cls ≠ "java/lang/invoke/VarHandle" ∧ (parseMethodDescriptor yJ9_floorMod_f86c9.desc).map (fun d => d.parameters.length) = some 2 := by decide +kernel
set_option maxRecDepth 20000 in
theorem in_X11_order_X11 : ∀ w ∈ wsX110, w ∈ wsX11_order := sub_r [10, 11, 12, 13, 14, 15] rfl
set_option maxHeartbeats 4000000 in
set_option maxRecDepth 100000 in
theorem c_X11_order (l : Launch) (D : va_G) (T : Nat → ClassId) (h0 : Nat) (fs0 : List Value) (h1 : Nat) (f1 : Nat → Int64) (h2 : Nat) (f2 : Nat → Int64) (x1 : Int32) (x2 : Int32) (e0_3 : fs0[3]? = some (.ref h1)) (e0_2 : fs0[2]? = some (.ref h2)) (hx1 : 0 ≤ x1.toInt ∧ x1.toInt < 676) (hx2 : 0 ≤ x2.toInt ∧ x2.toInt < 676) (ho1 : 1 ≤ (f1 (x1.toNatClampNeg)).toInt) (ho2 : 1 ≤ (f1 (x2.toNatClampNeg)).toInt) : Met l yX11_order wsX11_order ({ frames := 1, cells := 0, slots := 0, locals := 25 }) (pR [.ref h0, .int x1, .int x2] D T [(h0, .inr (8, fs0)), (h1, .inl (T 1, 676, .inr (.inl f1))), (h2, .inl (T 1, 676, .inr (.inl f2)))]) (vp_Si (fun r => r.toInt = cmpW (f2 (x1.toNatClampNeg)).toInt (f1 (x1.toNatClampNeg)).toInt (f2 (x2.toNatClampNeg)).toInt (f1 (x2.toNatClampNeg)).toInt)) 0 0 (fun _ => False) := by
  refine Met.ofW (cc := cX11_order) (maxL := 21) (ret := (some .int)) (by decide +kernel) rfl ?_
  intro p e s m args below meth c s₁ B hml hv
  obtain ⟨rfl, hP, hE⟩ := hv
  have hx := B.exec
  have hb := B.bytes
  have hr := B.returns
  have hts := atoms_spec (ws := wsX11_order) B.pre
  have hown : s.vm.findClass RX11 = some m.cls := findClass_of_methodNamed B.named
  have hlocks := B.notSynchronized
  have hP : va_P D vwCl [(h0, .inr (8, fs0)), (h1, .inl (T 1, 676, .inr (.inl f1))), (h2, .inl (T 1, 676, .inr (.inl f2)))] s.heap := hP
  have hl := lv_entry ([.ref h0, .int x1, .int x2]) (n := 21) (Nat.le_of_ble_eq_true rfl)
  rw [lg_entry_eq]
  generalize (lg_sl ([.ref h0, .int x1, .int x2]) ++ List.replicate (21 - (lg_sl ([.ref h0, .int x1, .int x2])).length) Slot.unset).toArray = ls at hl ⊢
  have hl : lv_has ls 21 [(0, .ref h0), (1, .int x1), (2, .int x2)] := hl
  refine lv_aload_n hx hb dX11_order_0 rfl (lv_at hl 0 rfl) ?_
  refine va_get (D := D) (ci := 8) (v := .ref h2) (C := RX11) (T := TX11) (N := 6) hx hb hts in_X11_order_X11 hown hE.1 hP 0 rfl rfl 2 (by decide +kernel) (hts (.fieldLink RX11 11 "ClauseBook$Worth" "above" "[J") (List.mem_of_getElem? (i := 1) rfl)) (fun _ h9 => h9) e0_2 dX11_order_1 ?_
  refine lv_iload_n hx hb dX11_order_4 rfl (lv_at hl 1 rfl) ?_
  refine va_lald hx hb hE.1 hP 2 1 rfl rfl (by rw [vp_in_iff]; omega) dX11_order_5 ?_
  refine lv_topl (fun z_1 ez_1 => ?_)
  refine lv_lstore_n (lv' := [(3, .long z_1), (0, .ref h0), (1, .int x1), (2, .int x2)]) hx hb dX11_order_6 rfl hl (by decide +kernel) rfl (fun ls hl => ?_)
  refine lv_aload_n hx hb dX11_order_7 rfl (lv_at hl 1 rfl) ?_
  refine va_get (D := D) (ci := 8) (v := .ref h1) (C := RX11) (T := TX11) (N := 6) hx hb hts in_X11_order_X11 hown hE.1 hP 0 rfl rfl 3 (by decide +kernel) (hts (.fieldLink RX11 15 "ClauseBook$Worth" "below" "[J") (List.mem_of_getElem? (i := 2) rfl)) (fun _ h9 => h9) e0_3 dX11_order_8 ?_
  refine lv_iload_n hx hb dX11_order_11 rfl (lv_at hl 2 rfl) ?_
  refine va_lald hx hb hE.1 hP 1 1 rfl rfl (by rw [vp_in_iff]; omega) dX11_order_12 ?_
  refine lv_topl (fun z_2 ez_2 => ?_)
  refine lv_lstore (lv' := [(5, .long z_2), (3, .long z_1), (0, .ref h0), (1, .int x1), (2, .int x2)]) hx hb dX11_order_13 hl (by decide +kernel) rfl (fun ls hl => ?_)
  refine lv_aload_n hx hb dX11_order_15 rfl (lv_at hl 2 rfl) ?_
  refine va_get (D := D) (ci := 8) (v := .ref h2) (C := RX11) (T := TX11) (N := 6) hx hb hts in_X11_order_X11 hown hE.1 hP 0 rfl rfl 2 (by decide +kernel) (hts (.fieldLink RX11 11 "ClauseBook$Worth" "above" "[J") (List.mem_of_getElem? (i := 1) rfl)) (fun _ h9 => h9) e0_2 dX11_order_16 ?_
  refine lv_iload_n hx hb dX11_order_19 rfl (lv_at hl 4 rfl) ?_
  refine va_lald hx hb hE.1 hP 2 1 rfl rfl (by rw [vp_in_iff]; omega) dX11_order_20 ?_
  refine lv_topl (fun z_3 ez_3 => ?_)
  refine lv_lstore (lv' := [(7, .long z_3), (5, .long z_2), (3, .long z_1), (0, .ref h0), (1, .int x1), (2, .int x2)]) hx hb dX11_order_21 hl (by decide +kernel) rfl (fun ls hl => ?_)
  refine lv_aload_n hx hb dX11_order_23 rfl (lv_at hl 3 rfl) ?_
  refine va_get (D := D) (ci := 8) (v := .ref h1) (C := RX11) (T := TX11) (N := 6) hx hb hts in_X11_order_X11 hown hE.1 hP 0 rfl rfl 3 (by decide +kernel) (hts (.fieldLink RX11 15 "ClauseBook$Worth" "below" "[J") (List.mem_of_getElem? (i := 2) rfl)) (fun _ h9 => h9) e0_3 dX11_order_24 ?_
  refine lv_iload_n hx hb dX11_order_27 rfl (lv_at hl 5 rfl) ?_
  refine va_lald hx hb hE.1 hP 1 1 rfl rfl (by rw [vp_in_iff]; omega) dX11_order_28 ?_
  refine lv_topl (fun z_4 ez_4 => ?_)
  refine lv_lstore (lv' := [(9, .long z_4), (7, .long z_3), (5, .long z_2), (3, .long z_1), (0, .ref h0), (1, .int x1), (2, .int x2)]) hx hb dX11_order_29 hl (by decide +kernel) rfl (fun ls hl => ?_)
  refine lv_iconst (v := 1) hx hb dX11_order_31 (by decide +kernel) ?_
  refine lv_istore (lv' := [(11, .int 1), (9, .long z_4), (7, .long z_3), (5, .long z_2), (3, .long z_1), (0, .ref h0), (1, .int x1), (2, .int x2)]) hx hb dX11_order_32 hl (by decide +kernel) rfl (fun ls hl => ?_)
  refine lv_iconst (v := 0) hx hb dX11_order_34 (by decide +kernel) ?_
  refine lv_istore (lv' := [(12, .int 0), (11, .int 1), (9, .long z_4), (7, .long z_3), (5, .long z_2), (3, .long z_1), (0, .ref h0), (1, .int x1), (2, .int x2)]) hx hb dX11_order_35 hl (by decide +kernel) rfl (fun ls hl => ?_)
  refine loopR (σ := (Int32) × (Int32) × (Int64) × (Int64) × (Int64) × (Int64)) (fun x9 ls => lv_has ls 21 [(12, .int x9.1), (11, .int x9.2.1), (9, .long x9.2.2.1), (7, .long x9.2.2.2.1), (5, .long x9.2.2.2.2.1), (3, .long x9.2.2.2.2.2), (0, .ref h0), (1, .int x1), (2, .int x2)] ∧ (ordI (cmpW (f2 (x1.toNatClampNeg)).toInt (f1 (x1.toNatClampNeg)).toInt (f2 (x2.toNatClampNeg)).toInt (f1 (x2.toNatClampNeg)).toInt) x9.1 x9.2.1 x9.2.2.1 x9.2.2.2.1 x9.2.2.2.2.1 x9.2.2.2.2.2)) (fun x9 => (200 - x9.1.toInt).toNat) (fun x9 ls hI ih => ?_) (0, 1, z_4, z_3, z_2, z_1) ls ⟨lv_sub hl [0, 1, 2, 3, 4, 5, 6, 7, 8] rfl, (by (try dsimp only); rw [← ez_1, ← ez_2, ← ez_3, ← ez_4]; exact ord_init (by rw [ez_2]; exact ho1) (by rw [ez_4]; exact ho2))⟩
  obtain ⟨ii, mo, ww, vv, yy, xx⟩ := x9
  obtain ⟨hl, hinv⟩ := hI
  have hl : lv_has ls 21 [(12, .int ii), (11, .int mo), (9, .long ww), (7, .long vv), (5, .long yy), (3, .long xx), (0, .ref h0), (1, .int x1), (2, .int x2)] := hl
  have hinv : ordI (cmpW (f2 (x1.toNatClampNeg)).toInt (f1 (x1.toNatClampNeg)).toInt (f2 (x2.toNatClampNeg)).toInt (f1 (x2.toNatClampNeg)).toInt) ii mo ww vv yy xx := hinv
  have hoa := hinv.1
  have hob := hinv.2.1
  refine lv_iload hx hb dX11_order_37 (lv_at hl 0 rfl) ?_
  refine lv_sipush (v := 200) hx hb dX11_order_39 (by decide +kernel) ?_
  refine lv_icmp_ge (tgt := 192) hx hb dX11_order_42 (by decide +kernel) (fun c_5 => ?_) (fun c_5 => ?_)
  · rw [fa_le] at c_5
    try rw [ti_200] at c_5
    refine lv_iconst (v := 0) hx hb dX11_order_192 (by decide +kernel) ?_
    exact W.iret hx hb hr (fun t ht hW => ⟨_, rfl, (by exfalso; exact ord_end hinv (by omega)), ht⟩) (fun _ h => by cases h) dX11_order_193
  · rw [fa_le] at c_5
    try rw [ti_200] at c_5
    refine lv_lload hx hb dX11_order_45 (lv_at hl 4 rfl) ?_
    refine lv_lconst (v := 0) hx hb dX11_order_47 (by decide +kernel) ?_
    refine W.lcmp hx hb dX11_order_48 ?_
    refine lv_if_le (tgt := 59) hx hb dX11_order_49 (by decide +kernel) (fun c_6 => ?_) (fun c_6 => ?_)
    · rw [lcmp_le] at c_6
      try rw [tl_0] at c_6
      refine lv_iconst (v := 0) hx hb dX11_order_59 (by decide +kernel) ?_
      exact W.iret hx hb hr (fun t ht hW => ⟨_, rfl, (by exfalso; omega), ht⟩) (fun _ h => by cases h) dX11_order_60
    · rw [lcmp_le] at c_6
      try rw [tl_0] at c_6
      refine lv_lload hx hb dX11_order_52 (lv_at hl 2 rfl) ?_
      refine lv_lconst (v := 0) hx hb dX11_order_54 (by decide +kernel) ?_
      refine W.lcmp hx hb dX11_order_55 ?_
      refine lv_if_gt (tgt := 61) hx hb dX11_order_56 (by decide +kernel) (fun c_7 => ?_) (fun c_7 => ?_)
      · rw [lcmp_gt] at c_7
        try rw [tl_0] at c_7
        refine lv_lload_n hx hb dX11_order_61 rfl (lv_at hl 5 rfl) ?_
        refine lv_lload hx hb dX11_order_62 (lv_at hl 4 rfl) ?_
        refine vp_callSl (W.runS (As := [.long xx, .long yy]) (rest := []) ⟨hx, hb, hml, hown, hts⟩ (c_J9_floorDiv_f86c9 l D T xx yy (by omega)) (va_cwS 2 hts gX11_order_J9_floorDiv_f86c9 rfl rfl rfl hs_J9_floorDiv_f86c9 ⟨Nat.le_of_ble_eq_true rfl, Nat.le_of_ble_eq_true rfl⟩) (pR_S hP hE [] rfl) rfl rfl hl.1 rfl (lv_room (Nat.le_of_ble_eq_true rfl)) dX11_order_64 ⟨Nat.le_of_ble_eq_true rfl, Nat.le_of_ble_eq_true rfl⟩) (fun r_8 hr_8 => ?_)
        refine lv_lstore (lv' := [(13, .long r_8), (12, .int ii), (11, .int mo), (9, .long ww), (7, .long vv), (5, .long yy), (3, .long xx), (0, .ref h0), (1, .int x1), (2, .int x2)]) hx hb dX11_order_67 hl (by decide +kernel) rfl (fun ls hl => ?_)
        refine lv_lload hx hb dX11_order_69 (lv_at hl 4 rfl) ?_
        refine lv_lload hx hb dX11_order_71 (lv_at hl 3 rfl) ?_
        refine vp_callSl (W.runS (As := [.long vv, .long ww]) (rest := []) ⟨hx, hb, hml, hown, hts⟩ (c_J9_floorDiv_f86c9 l D T vv ww (by omega)) (va_cwS 2 hts gX11_order_J9_floorDiv_f86c9 rfl rfl rfl hs_J9_floorDiv_f86c9 ⟨Nat.le_of_ble_eq_true rfl, Nat.le_of_ble_eq_true rfl⟩) (pR_S hP hE [] rfl) rfl rfl hl.1 rfl (lv_room (Nat.le_of_ble_eq_true rfl)) dX11_order_73 ⟨Nat.le_of_ble_eq_true rfl, Nat.le_of_ble_eq_true rfl⟩) (fun r_9 hr_9 => ?_)
        refine lv_lstore (lv' := [(15, .long r_9), (13, .long r_8), (12, .int ii), (11, .int mo), (9, .long ww), (7, .long vv), (5, .long yy), (3, .long xx), (0, .ref h0), (1, .int x1), (2, .int x2)]) hx hb dX11_order_76 hl (by decide +kernel) rfl (fun ls hl => ?_)
        refine lv_lload hx hb dX11_order_78 (lv_at hl 1 rfl) ?_
        refine lv_lload hx hb dX11_order_80 (lv_at hl 0 rfl) ?_
        refine W.lcmp hx hb dX11_order_82 ?_
        refine lv_if_eq (tgt := 103) hx hb dX11_order_83 (by decide +kernel) (fun c_10 => ?_) (fun c_10 => ?_)
        · rw [lcmp_eq] at c_10
          refine lv_lload_n hx hb dX11_order_103 rfl (lv_at hl 7 rfl) ?_
          refine lv_lload hx hb dX11_order_104 (lv_at hl 6 rfl) ?_
          refine vp_callSl (W.runS (As := [.long xx, .long yy]) (rest := []) ⟨hx, hb, hml, hown, hts⟩ (c_J9_floorMod_f86c9 l D T xx yy (by omega)) (va_cwS 2 hts gX11_order_J9_floorMod_f86c9 rfl rfl rfl hs_J9_floorMod_f86c9 ⟨Nat.le_of_ble_eq_true rfl, Nat.le_of_ble_eq_true rfl⟩) (pR_S hP hE [] rfl) rfl rfl hl.1 rfl (lv_room (Nat.le_of_ble_eq_true rfl)) dX11_order_106 ⟨Nat.le_of_ble_eq_true rfl, Nat.le_of_ble_eq_true rfl⟩) (fun r_11 hr_11 => ?_)
          refine lv_lstore (lv' := [(17, .long r_11), (15, .long r_9), (13, .long r_8), (12, .int ii), (11, .int mo), (9, .long ww), (7, .long vv), (5, .long yy), (3, .long xx), (0, .ref h0), (1, .int x1), (2, .int x2)]) hx hb dX11_order_109 hl (by decide +kernel) rfl (fun ls hl => ?_)
          refine lv_lload hx hb dX11_order_111 (lv_at hl 6 rfl) ?_
          refine lv_lload hx hb dX11_order_113 (lv_at hl 5 rfl) ?_
          refine vp_callSl (W.runS (As := [.long vv, .long ww]) (rest := []) ⟨hx, hb, hml, hown, hts⟩ (c_J9_floorMod_f86c9 l D T vv ww (by omega)) (va_cwS 2 hts gX11_order_J9_floorMod_f86c9 rfl rfl rfl hs_J9_floorMod_f86c9 ⟨Nat.le_of_ble_eq_true rfl, Nat.le_of_ble_eq_true rfl⟩) (pR_S hP hE [] rfl) rfl rfl hl.1 rfl (lv_room (Nat.le_of_ble_eq_true rfl)) dX11_order_115 ⟨Nat.le_of_ble_eq_true rfl, Nat.le_of_ble_eq_true rfl⟩) (fun r_12 hr_12 => ?_)
          refine lv_lstore (lv' := [(19, .long r_12), (17, .long r_11), (15, .long r_9), (13, .long r_8), (12, .int ii), (11, .int mo), (9, .long ww), (7, .long vv), (5, .long yy), (3, .long xx), (0, .ref h0), (1, .int x1), (2, .int x2)]) hx hb dX11_order_118 hl (by decide +kernel) rfl (fun ls hl => ?_)
          refine lv_lload hx hb dX11_order_120 (lv_at hl 1 rfl) ?_
          refine lv_lconst (v := 0) hx hb dX11_order_122 (by decide +kernel) ?_
          refine W.lcmp hx hb dX11_order_123 ?_
          refine lv_if_ne (tgt := 136) hx hb dX11_order_124 (by decide +kernel) (fun c_13 => ?_) (fun c_13 => ?_)
          · rw [lcmp_eq] at c_13
            try rw [tl_0] at c_13
            refine lv_lload hx hb dX11_order_136 (lv_at hl 1 rfl) ?_
            refine lv_lconst (v := 0) hx hb dX11_order_138 (by decide +kernel) ?_
            refine W.lcmp hx hb dX11_order_139 ?_
            refine lv_if_eq (tgt := 150) hx hb dX11_order_140 (by decide +kernel) (fun c_14 => ?_) (fun c_14 => ?_)
            · rw [lcmp_eq] at c_14
              try rw [tl_0] at c_14
              refine lv_lload hx hb dX11_order_150 (lv_at hl 0 rfl) ?_
              refine lv_lconst (v := 0) hx hb dX11_order_152 (by decide +kernel) ?_
              refine W.lcmp hx hb dX11_order_153 ?_
              refine lv_if_ne (tgt := 162) hx hb dX11_order_154 (by decide +kernel) (fun c_15 => ?_) (fun c_15 => ?_)
              · rw [lcmp_eq] at c_15
                try rw [tl_0] at c_15
                refine lv_iload hx hb dX11_order_162 (lv_at hl 5 rfl) ?_
                refine lv_ineg hx hb dX11_order_164 ?_
                exact W.iret hx hb hr (fun t ht hW => ⟨_, rfl, (ord_r hinv (by rw [← hr_8, ← hr_9]; omega) hr_11 hr_12 (by omega) (by omega)), ht⟩) (fun _ h => by cases h) dX11_order_165
              · rw [lcmp_eq] at c_15
                try rw [tl_0] at c_15
                refine lv_iload hx hb dX11_order_157 (lv_at hl 5 rfl) ?_
                refine lv_goto (tgt := 165) hx hb dX11_order_159 (by decide +kernel) ?_
                exact W.iret hx hb hr (fun t ht hW => ⟨_, rfl, (ord_s hinv (by rw [← hr_8, ← hr_9]; omega) hr_11 hr_12 (by omega) (by omega)), ht⟩) (fun _ h => by cases h) dX11_order_165
            · rw [lcmp_eq] at c_14
              try rw [tl_0] at c_14
              refine lv_lload hx hb dX11_order_143 (lv_at hl 0 rfl) ?_
              refine lv_lconst (v := 0) hx hb dX11_order_145 (by decide +kernel) ?_
              refine W.lcmp hx hb dX11_order_146 ?_
              refine lv_if_ne (tgt := 166) hx hb dX11_order_147 (by decide +kernel) (fun c_16 => ?_) (fun c_16 => ?_)
              · rw [lcmp_eq] at c_16
                try rw [tl_0] at c_16
                refine lv_lload hx hb dX11_order_166 (lv_at hl 8 rfl) ?_
                refine lv_lstore_n (lv' := [(3, .long yy), (19, .long r_12), (17, .long r_11), (15, .long r_9), (13, .long r_8), (12, .int ii), (11, .int mo), (9, .long ww), (7, .long vv), (5, .long yy), (0, .ref h0), (1, .int x1), (2, .int x2)]) hx hb dX11_order_168 rfl hl (by decide +kernel) rfl (fun ls hl => ?_)
                refine lv_lload hx hb dX11_order_169 (lv_at hl 2 rfl) ?_
                refine lv_lstore (lv' := [(5, .long r_11), (3, .long yy), (19, .long r_12), (17, .long r_11), (15, .long r_9), (13, .long r_8), (12, .int ii), (11, .int mo), (9, .long ww), (7, .long vv), (0, .ref h0), (1, .int x1), (2, .int x2)]) hx hb dX11_order_171 hl (by decide +kernel) rfl (fun ls hl => ?_)
                refine lv_lload hx hb dX11_order_173 (lv_at hl 8 rfl) ?_
                refine lv_lstore (lv' := [(7, .long ww), (5, .long r_11), (3, .long yy), (19, .long r_12), (17, .long r_11), (15, .long r_9), (13, .long r_8), (12, .int ii), (11, .int mo), (9, .long ww), (0, .ref h0), (1, .int x1), (2, .int x2)]) hx hb dX11_order_175 hl (by decide +kernel) rfl (fun ls hl => ?_)
                refine lv_lload hx hb dX11_order_177 (lv_at hl 3 rfl) ?_
                refine lv_lstore (lv' := [(9, .long r_12), (7, .long ww), (5, .long r_11), (3, .long yy), (19, .long r_12), (17, .long r_11), (15, .long r_9), (13, .long r_8), (12, .int ii), (11, .int mo), (0, .ref h0), (1, .int x1), (2, .int x2)]) hx hb dX11_order_179 hl (by decide +kernel) rfl (fun ls hl => ?_)
                refine lv_iload hx hb dX11_order_181 (lv_at hl 9 rfl) ?_
                refine lv_ineg hx hb dX11_order_183 ?_
                refine lv_istore (lv' := [(11, .int (-mo)), (9, .long r_12), (7, .long ww), (5, .long r_11), (3, .long yy), (19, .long r_12), (17, .long r_11), (15, .long r_9), (13, .long r_8), (12, .int ii), (0, .ref h0), (1, .int x1), (2, .int x2)]) hx hb dX11_order_184 hl (by decide +kernel) rfl (fun ls hl => ?_)
                obtain ⟨z_17, ez_17⟩ : ∃ y : Int32, y = ii + 1 := ⟨_, rfl⟩
                refine lv_iinc (v := z_17) (lv' := [(12, .int z_17), (11, .int (-mo)), (9, .long r_12), (7, .long ww), (5, .long r_11), (3, .long yy), (19, .long r_12), (17, .long r_11), (15, .long r_9), (13, .long r_8), (0, .ref h0), (1, .int x1), (2, .int x2)]) hx hb dX11_order_186 hl (k := 9) rfl (by rw [ez_17]; rfl) (by decide +kernel) rfl (fun ls hl => ?_)
                refine lv_goto (tgt := 37) hx hb dX11_order_189 (by decide +kernel) ?_
                exact ih (z_17, (-mo), r_12, ww, r_11, yy) ls ⟨lv_sub hl [0, 1, 2, 3, 4, 5, 10, 11, 12] rfl, (ord_back hinv (by omega) (by rw [ez_17]; exact inc1 (n := 200) (by omega) (by decide +kernel)) (by rw [← hr_8, ← hr_9]; omega) hr_11 hr_12 (by omega) (by omega))⟩ (by (try dsimp only); have h9 : z_17.toInt = ii.toInt + 1 := (by rw [ez_17]; exact inc1 (n := 200) (by omega) (by decide +kernel)); omega)
              · rw [lcmp_eq] at c_16
                try rw [tl_0] at c_16
                refine lv_lload hx hb dX11_order_150 (lv_at hl 0 rfl) ?_
                refine lv_lconst (v := 0) hx hb dX11_order_152 (by decide +kernel) ?_
                refine W.lcmp hx hb dX11_order_153 ?_
                refine lv_if_ne (tgt := 162) hx hb dX11_order_154 (by decide +kernel) (fun c_18 => ?_) (fun c_18 => ?_)
                · rw [lcmp_eq] at c_18
                  try rw [tl_0] at c_18
                  refine lv_iload hx hb dX11_order_162 (lv_at hl 5 rfl) ?_
                  refine lv_ineg hx hb dX11_order_164 ?_
                  exact W.iret hx hb hr (fun t ht hW => ⟨_, rfl, (ord_r hinv (by rw [← hr_8, ← hr_9]; omega) hr_11 hr_12 (by omega) (by omega)), ht⟩) (fun _ h => by cases h) dX11_order_165
                · rw [lcmp_eq] at c_18
                  try rw [tl_0] at c_18
                  refine lv_iload hx hb dX11_order_157 (lv_at hl 5 rfl) ?_
                  refine lv_goto (tgt := 165) hx hb dX11_order_159 (by decide +kernel) ?_
                  exact W.iret hx hb hr (fun t ht hW => ⟨_, rfl, (ord_s hinv (by rw [← hr_8, ← hr_9]; omega) hr_11 hr_12 (by omega) (by omega)), ht⟩) (fun _ h => by cases h) dX11_order_165
          · rw [lcmp_eq] at c_13
            try rw [tl_0] at c_13
            refine lv_lload hx hb dX11_order_127 (lv_at hl 0 rfl) ?_
            refine lv_lconst (v := 0) hx hb dX11_order_129 (by decide +kernel) ?_
            refine W.lcmp hx hb dX11_order_130 ?_
            refine lv_if_ne (tgt := 136) hx hb dX11_order_131 (by decide +kernel) (fun c_19 => ?_) (fun c_19 => ?_)
            · rw [lcmp_eq] at c_19
              try rw [tl_0] at c_19
              refine lv_lload hx hb dX11_order_136 (lv_at hl 1 rfl) ?_
              refine lv_lconst (v := 0) hx hb dX11_order_138 (by decide +kernel) ?_
              refine W.lcmp hx hb dX11_order_139 ?_
              refine lv_if_eq (tgt := 150) hx hb dX11_order_140 (by decide +kernel) (fun c_20 => ?_) (fun c_20 => ?_)
              · rw [lcmp_eq] at c_20
                try rw [tl_0] at c_20
                refine lv_lload hx hb dX11_order_150 (lv_at hl 0 rfl) ?_
                refine lv_lconst (v := 0) hx hb dX11_order_152 (by decide +kernel) ?_
                refine W.lcmp hx hb dX11_order_153 ?_
                refine lv_if_ne (tgt := 162) hx hb dX11_order_154 (by decide +kernel) (fun c_21 => ?_) (fun c_21 => ?_)
                · rw [lcmp_eq] at c_21
                  try rw [tl_0] at c_21
                  refine lv_iload hx hb dX11_order_162 (lv_at hl 5 rfl) ?_
                  refine lv_ineg hx hb dX11_order_164 ?_
                  exact W.iret hx hb hr (fun t ht hW => ⟨_, rfl, (ord_r hinv (by rw [← hr_8, ← hr_9]; omega) hr_11 hr_12 (by omega) (by omega)), ht⟩) (fun _ h => by cases h) dX11_order_165
                · rw [lcmp_eq] at c_21
                  try rw [tl_0] at c_21
                  refine lv_iload hx hb dX11_order_157 (lv_at hl 5 rfl) ?_
                  refine lv_goto (tgt := 165) hx hb dX11_order_159 (by decide +kernel) ?_
                  exact W.iret hx hb hr (fun t ht hW => ⟨_, rfl, (ord_s hinv (by rw [← hr_8, ← hr_9]; omega) hr_11 hr_12 (by omega) (by omega)), ht⟩) (fun _ h => by cases h) dX11_order_165
              · rw [lcmp_eq] at c_20
                try rw [tl_0] at c_20
                refine lv_lload hx hb dX11_order_143 (lv_at hl 0 rfl) ?_
                refine lv_lconst (v := 0) hx hb dX11_order_145 (by decide +kernel) ?_
                refine W.lcmp hx hb dX11_order_146 ?_
                refine lv_if_ne (tgt := 166) hx hb dX11_order_147 (by decide +kernel) (fun c_22 => ?_) (fun c_22 => ?_)
                · rw [lcmp_eq] at c_22
                  try rw [tl_0] at c_22
                  refine lv_lload hx hb dX11_order_166 (lv_at hl 8 rfl) ?_
                  refine lv_lstore_n (lv' := [(3, .long yy), (19, .long r_12), (17, .long r_11), (15, .long r_9), (13, .long r_8), (12, .int ii), (11, .int mo), (9, .long ww), (7, .long vv), (5, .long yy), (0, .ref h0), (1, .int x1), (2, .int x2)]) hx hb dX11_order_168 rfl hl (by decide +kernel) rfl (fun ls hl => ?_)
                  refine lv_lload hx hb dX11_order_169 (lv_at hl 2 rfl) ?_
                  refine lv_lstore (lv' := [(5, .long r_11), (3, .long yy), (19, .long r_12), (17, .long r_11), (15, .long r_9), (13, .long r_8), (12, .int ii), (11, .int mo), (9, .long ww), (7, .long vv), (0, .ref h0), (1, .int x1), (2, .int x2)]) hx hb dX11_order_171 hl (by decide +kernel) rfl (fun ls hl => ?_)
                  refine lv_lload hx hb dX11_order_173 (lv_at hl 8 rfl) ?_
                  refine lv_lstore (lv' := [(7, .long ww), (5, .long r_11), (3, .long yy), (19, .long r_12), (17, .long r_11), (15, .long r_9), (13, .long r_8), (12, .int ii), (11, .int mo), (9, .long ww), (0, .ref h0), (1, .int x1), (2, .int x2)]) hx hb dX11_order_175 hl (by decide +kernel) rfl (fun ls hl => ?_)
                  refine lv_lload hx hb dX11_order_177 (lv_at hl 3 rfl) ?_
                  refine lv_lstore (lv' := [(9, .long r_12), (7, .long ww), (5, .long r_11), (3, .long yy), (19, .long r_12), (17, .long r_11), (15, .long r_9), (13, .long r_8), (12, .int ii), (11, .int mo), (0, .ref h0), (1, .int x1), (2, .int x2)]) hx hb dX11_order_179 hl (by decide +kernel) rfl (fun ls hl => ?_)
                  refine lv_iload hx hb dX11_order_181 (lv_at hl 9 rfl) ?_
                  refine lv_ineg hx hb dX11_order_183 ?_
                  refine lv_istore (lv' := [(11, .int (-mo)), (9, .long r_12), (7, .long ww), (5, .long r_11), (3, .long yy), (19, .long r_12), (17, .long r_11), (15, .long r_9), (13, .long r_8), (12, .int ii), (0, .ref h0), (1, .int x1), (2, .int x2)]) hx hb dX11_order_184 hl (by decide +kernel) rfl (fun ls hl => ?_)
                  obtain ⟨z_23, ez_23⟩ : ∃ y : Int32, y = ii + 1 := ⟨_, rfl⟩
                  refine lv_iinc (v := z_23) (lv' := [(12, .int z_23), (11, .int (-mo)), (9, .long r_12), (7, .long ww), (5, .long r_11), (3, .long yy), (19, .long r_12), (17, .long r_11), (15, .long r_9), (13, .long r_8), (0, .ref h0), (1, .int x1), (2, .int x2)]) hx hb dX11_order_186 hl (k := 9) rfl (by rw [ez_23]; rfl) (by decide +kernel) rfl (fun ls hl => ?_)
                  refine lv_goto (tgt := 37) hx hb dX11_order_189 (by decide +kernel) ?_
                  exact ih (z_23, (-mo), r_12, ww, r_11, yy) ls ⟨lv_sub hl [0, 1, 2, 3, 4, 5, 10, 11, 12] rfl, (ord_back hinv (by omega) (by rw [ez_23]; exact inc1 (n := 200) (by omega) (by decide +kernel)) (by rw [← hr_8, ← hr_9]; omega) hr_11 hr_12 (by omega) (by omega))⟩ (by (try dsimp only); have h9 : z_23.toInt = ii.toInt + 1 := (by rw [ez_23]; exact inc1 (n := 200) (by omega) (by decide +kernel)); omega)
                · rw [lcmp_eq] at c_22
                  try rw [tl_0] at c_22
                  refine lv_lload hx hb dX11_order_150 (lv_at hl 0 rfl) ?_
                  refine lv_lconst (v := 0) hx hb dX11_order_152 (by decide +kernel) ?_
                  refine W.lcmp hx hb dX11_order_153 ?_
                  refine lv_if_ne (tgt := 162) hx hb dX11_order_154 (by decide +kernel) (fun c_24 => ?_) (fun c_24 => ?_)
                  · rw [lcmp_eq] at c_24
                    try rw [tl_0] at c_24
                    refine lv_iload hx hb dX11_order_162 (lv_at hl 5 rfl) ?_
                    refine lv_ineg hx hb dX11_order_164 ?_
                    exact W.iret hx hb hr (fun t ht hW => ⟨_, rfl, (ord_r hinv (by rw [← hr_8, ← hr_9]; omega) hr_11 hr_12 (by omega) (by omega)), ht⟩) (fun _ h => by cases h) dX11_order_165
                  · rw [lcmp_eq] at c_24
                    try rw [tl_0] at c_24
                    refine lv_iload hx hb dX11_order_157 (lv_at hl 5 rfl) ?_
                    refine lv_goto (tgt := 165) hx hb dX11_order_159 (by decide +kernel) ?_
                    exact W.iret hx hb hr (fun t ht hW => ⟨_, rfl, (ord_s hinv (by rw [← hr_8, ← hr_9]; omega) hr_11 hr_12 (by omega) (by omega)), ht⟩) (fun _ h => by cases h) dX11_order_165
            · rw [lcmp_eq] at c_19
              try rw [tl_0] at c_19
              refine lv_iconst (v := 0) hx hb dX11_order_134 (by decide +kernel) ?_
              exact W.iret hx hb hr (fun t ht hW => ⟨_, rfl, (ord_0 hinv (by rw [← hr_8, ← hr_9]; omega) hr_11 hr_12 (by omega) (by omega)), ht⟩) (fun _ h => by cases h) dX11_order_135
        · rw [lcmp_eq] at c_10
          refine lv_lload hx hb dX11_order_86 (lv_at hl 1 rfl) ?_
          refine lv_lload hx hb dX11_order_88 (lv_at hl 0 rfl) ?_
          refine W.lcmp hx hb dX11_order_90 ?_
          refine lv_if_le (tgt := 99) hx hb dX11_order_91 (by decide +kernel) (fun c_25 => ?_) (fun c_25 => ?_)
          · rw [lcmp_le] at c_25
            refine lv_iload hx hb dX11_order_99 (lv_at hl 3 rfl) ?_
            refine lv_ineg hx hb dX11_order_101 ?_
            exact W.iret hx hb hr (fun t ht hW => ⟨_, rfl, (ord_lt hinv hr_8 hr_9 (by omega)), ht⟩) (fun _ h => by cases h) dX11_order_102
          · rw [lcmp_le] at c_25
            refine lv_iload hx hb dX11_order_94 (lv_at hl 3 rfl) ?_
            refine lv_goto (tgt := 102) hx hb dX11_order_96 (by decide +kernel) ?_
            exact W.iret hx hb hr (fun t ht hW => ⟨_, rfl, (ord_gt hinv hr_8 hr_9 (by omega)), ht⟩) (fun _ h => by cases h) dX11_order_102
      · rw [lcmp_gt] at c_7
        try rw [tl_0] at c_7
        refine lv_iconst (v := 0) hx hb dX11_order_59 (by decide +kernel) ?_
        exact W.iret hx hb hr (fun t ht hW => ⟨_, rfl, (by exfalso; omega), ht⟩) (fun _ h => by cases h) dX11_order_60
theorem dX11_raise_0 : decode cX11_raise 0 = .ok (.aload_n 0, 1) := by decide +kernel
theorem dX11_raise_1 : decode cX11_raise 1 = .ok (.iload_n 1, 1) := by decide +kernel
theorem dX11_raise_10 : decode cX11_raise 10 = .ok (.invokevirtual 34, 3) := by decide +kernel
theorem dX11_raise_13 : decode cX11_raise 13 = .ok (.ifCond .eq 13, 3) := by decide +kernel
theorem dX11_raise_16 : decode cX11_raise 16 = .ok (.aload_n 0, 1) := by decide +kernel
theorem dX11_raise_17 : decode cX11_raise 17 = .ok (.iload_n 1, 1) := by decide +kernel
theorem dX11_raise_18 : decode cX11_raise 18 = .ok (.lconst 0, 1) := by decide +kernel
theorem dX11_raise_19 : decode cX11_raise 19 = .ok (.lconst 0, 1) := by decide +kernel
theorem dX11_raise_2 : decode cX11_raise 2 = .ok (.invokevirtual 34, 3) := by decide +kernel
theorem dX11_raise_20 : decode cX11_raise 20 = .ok (.invokevirtual 67, 3) := by decide +kernel
theorem dX11_raise_23 : decode cX11_raise 23 = .ok (.goto 18, 3) := by decide +kernel
theorem dX11_raise_26 : decode cX11_raise 26 = .ok (.aload_n 0, 1) := by decide +kernel
theorem dX11_raise_27 : decode cX11_raise 27 = .ok (.iload_n 2, 1) := by decide +kernel
theorem dX11_raise_28 : decode cX11_raise 28 = .ok (.iload_n 1, 1) := by decide +kernel
theorem dX11_raise_29 : decode cX11_raise 29 = .ok (.invokevirtual 114, 3) := by decide +kernel
theorem dX11_raise_32 : decode cX11_raise 32 = .ok (.ifCond .le 9, 3) := by decide +kernel
theorem dX11_raise_35 : decode cX11_raise 35 = .ok (.aload_n 0, 1) := by decide +kernel
theorem dX11_raise_36 : decode cX11_raise 36 = .ok (.iload_n 1, 1) := by decide +kernel
theorem dX11_raise_37 : decode cX11_raise 37 = .ok (.iload_n 2, 1) := by decide +kernel
theorem dX11_raise_38 : decode cX11_raise 38 = .ok (.invokevirtual 97, 3) := by decide +kernel
theorem dX11_raise_41 : decode cX11_raise 41 = .ok (.return_, 1) := by decide +kernel
theorem dX11_raise_5 : decode cX11_raise 5 = .ok (.ifCond .ne 11, 3) := by decide +kernel
theorem dX11_raise_8 : decode cX11_raise 8 = .ok (.aload_n 0, 1) := by decide +kernel
theorem dX11_raise_9 : decode cX11_raise 9 = .ok (.iload_n 2, 1) := by decide +kernel
set_option maxRecDepth 20000 in
theorem ggX11_raise_X11_assign : GoodIn wsX11_raise wsX11_assign := goodIn_r _ [10, 11, 6, 27, 28, 29, 30, 31, 32] rfl (by decide +kernel)
set_option maxRecDepth 20000 in
theorem ggX11_raise_X11_isMuch : GoodIn wsX11_raise wsX11_isMuch := goodIn_r _ [5, 6, 27, 28, 29, 30, 31, 32] rfl (by decide +kernel)
set_option maxRecDepth 20000 in
theorem ggX11_raise_X11_order : GoodIn wsX11_raise wsX11_order := goodIn_r _ [15, 11, 6, 16, 17, 18, 19, 20, 21, 22, 27, 28, 29, 30, 31, 32] rfl (by decide +kernel)
set_option maxRecDepth 20000 in
theorem ggX11_raise_X11_repeat : GoodIn wsX11_raise wsX11_repeat := goodIn_r _ [26, 11, 6, 7, 8, 9, 4, 10, 27, 28, 29, 30, 31, 32] rfl (by decide +kernel)
set_option maxRecDepth 20000 in
theorem gX11_raise_X11_assign : GoodIn wsX11_raise (wsV RX11 67 RX11 yX11_assign wsX11_assign) := goodIn_app (goodIn_r _ [7, 8, 9, 4] rfl (by decide +kernel)) ggX11_raise_X11_assign
set_option maxRecDepth 20000 in
theorem gX11_raise_X11_isMuch : GoodIn wsX11_raise (wsV RX11 34 RX11 yX11_isMuch wsX11_isMuch) := goodIn_app (goodIn_r _ [1, 2, 3, 4] rfl (by decide +kernel)) ggX11_raise_X11_isMuch
set_option maxRecDepth 20000 in
theorem gX11_raise_X11_order : GoodIn wsX11_raise (wsV RX11 114 RX11 yX11_order wsX11_order) := goodIn_app (goodIn_r _ [12, 13, 14, 4] rfl (by decide +kernel)) ggX11_raise_X11_order
set_option maxRecDepth 20000 in
theorem gX11_raise_X11_repeat : GoodIn wsX11_raise (wsV RX11 97 RX11 yX11_repeat wsX11_repeat) := goodIn_app (goodIn_r _ [23, 24, 25, 4] rfl (by decide +kernel)) ggX11_raise_X11_repeat
theorem hv_X11_order : yX11_order.cls = RX11 ∧ yX11_order.cls ≠ "java/lang/invoke/MethodHandle" ∧ yX11_order.cls ≠ "java/lang/invoke/VarHandle" ∧ (parseMethodDescriptor yX11_order.desc).map (fun d => d.parameters.length) = some 2 := by decide +kernel
theorem hv_X11_repeat : yX11_repeat.cls = RX11 ∧ yX11_repeat.cls ≠ "java/lang/invoke/MethodHandle" ∧ yX11_repeat.cls ≠ "java/lang/invoke/VarHandle" ∧ (parseMethodDescriptor yX11_repeat.desc).map (fun d => d.parameters.length) = some 2 := by decide +kernel
set_option maxHeartbeats 4000000 in
set_option maxRecDepth 100000 in
theorem c_X11_raise (l : Launch) (D : va_G) (T : Nat → ClassId) (sz : Nat) (h0 : Nat) (p0 : Nat) (p1 : Nat) (v0 : Value) (v1 : Value) (v4 : Value) (n : Int32) (f0 : Nat → Int64) (f1 : Nat → Int64) (x1 : Int32) (x2 : Int32) (hx1 : 0 ≤ x1.toInt ∧ x1.toInt < 676) (hx2 : 0 ≤ x2.toInt ∧ x2.toInt < 676) (hb1 : 0 ≤ (f1 (x1.toNatClampNeg)).toInt) (hb2 : 0 ≤ (f1 (x2.toNatClampNeg)).toInt) : Met l yX11_raise wsX11_raise ({ frames := 2, cells := 0, slots := 0, locals := 65 }) (pW [.ref h0, .int x1, .int x2] D T [(h0, .inr (8, [v0, v1, .ref p0, .ref p1, v4, .int n])), (p0, .inl (T 1, 676, .inr (.inl f0))), (p1, .inl (T 1, 676, .inr (.inl f1)))] sz) (va_Qv (fun (u : (Nat → Int64) × (Nat → Int64)) => u.1 = vp_updL f0 (x1.toNatClampNeg) (maxW ((f0 (x1.toNatClampNeg)), (f1 (x1.toNatClampNeg))) ((f0 (x2.toNatClampNeg)), (f1 (x2.toNatClampNeg)))).1 ∧ u.2 = vp_updL f1 (x1.toNatClampNeg) (maxW ((f0 (x1.toNatClampNeg)), (f1 (x1.toNatClampNeg))) ((f0 (x2.toNatClampNeg)), (f1 (x2.toNatClampNeg)))).2) (bW D (va_A [(h0, .inr (8, [v0, v1, .ref p0, .ref p1, v4, .int n])), (p0, .inl (T 1, 676, .inr (.inl f0))), (p1, .inl (T 1, 676, .inr (.inl f1)))] sz) (fun (u : (Nat → Int64) × (Nat → Int64)) => [(h0, .inr (8, [v0, v1, .ref p0, .ref p1, v4, .int n])), (p0, .inl (T 1, 676, .inr (.inl u.1))), (p1, .inl (T 1, 676, .inr (.inl u.2)))])) (va_A [(h0, .inr (8, [v0, v1, .ref p0, .ref p1, v4, .int n])), (p0, .inl (T 1, 676, .inr (.inl f0))), (p1, .inl (T 1, 676, .inr (.inl f1)))] sz)) 0 0 (va_A [(h0, .inr (8, [v0, v1, .ref p0, .ref p1, v4, .int n])), (p0, .inl (T 1, 676, .inr (.inl f0))), (p1, .inl (T 1, 676, .inr (.inl f1)))] sz) := by
  refine Met.ofW (cc := cX11_raise) (maxL := 3) (ret := none) (by decide +kernel) rfl ?_
  intro p e s m args below meth c s₁ B hml hv
  obtain ⟨rfl, hsz, hP, hE, hD0⟩ := hv
  have hx := B.exec
  have hb := B.bytes
  have hr := B.returns
  have hts := atoms_spec (ws := wsX11_raise) B.pre
  have hown : s.vm.findClass RX11 = some m.cls := findClass_of_methodNamed B.named
  have hlocks := B.notSynchronized
  subst hsz
  have hD := hD0.self (sz := s.heap.size)
  generalize hAe : va_A [(h0, .inr (8, [v0, v1, .ref p0, .ref p1, v4, .int n])), (p0, .inl (T 1, 676, .inr (.inl f0))), (p1, .inl (T 1, 676, .inr (.inl f1)))] s.heap.size = A at hD ⊢
  have hA : ∀ q : Nat, s.heap.size ≤ q → A q := fun q h => by rw [← hAe]; exact Or.inr h
  have hS : va_S A s.heap s.heap [] := va_S.rf
  have hP : va_P D vwCl [(h0, .inr (8, [v0, v1, .ref p0, .ref p1, v4, .int n])), (p0, .inl (T 1, 676, .inr (.inl f0))), (p1, .inl (T 1, 676, .inr (.inl f1)))] s.heap := hP
  have hl := lv_entry ([.ref h0, .int x1, .int x2]) (n := 3) (Nat.le_of_ble_eq_true rfl)
  rw [lg_entry_eq]
  generalize (lg_sl ([.ref h0, .int x1, .int x2]) ++ List.replicate (3 - (lg_sl ([.ref h0, .int x1, .int x2])).length) Slot.unset).toArray = ls at hl ⊢
  have hl : lv_has ls 3 [(0, .ref h0), (1, .int x1), (2, .int x2)] := hl
  clear hD0
  refine lv_aload_n hx hb dX11_raise_0 rfl (lv_at hl 0 rfl) ?_
  refine lv_iload_n hx hb dX11_raise_1 rfl (lv_at hl 1 rfl) ?_
  refine vp_callSi (W.runV (As := [.int x1]) (rest := []) ⟨hx, hb, hml, hown, hts⟩ (c_X11_isMuch l D T h0 [v0, v1, .ref p0, .ref p1, v4, .int n] p1 f1 x1 rfl (by first | decide | omega)) (cwV 1 hts gX11_raise_X11_isMuch rfl rfl rfl hv_X11_isMuch ⟨Nat.le_of_ble_eq_true rfl, Nat.le_of_ble_eq_true rfl⟩) (pR_V (q := (RX11, TX11, 6)) (ci := 8) (q0 := 0) hP hE rfl rfl [0, 2] rfl) rfl rfl hl.1 rfl (lv_room (Nat.le_of_ble_eq_true rfl)) dX11_raise_2 ⟨Nat.le_of_ble_eq_true rfl, Nat.le_of_ble_eq_true rfl⟩) (fun r_1 hr_1 => ?_)
  rcases bool_post hr_1 with ⟨c_2, rfl⟩ | ⟨c_2, rfl⟩
  · refine lv_if_ne (tgt := 16) hx hb dX11_raise_5 (by decide +kernel) (fun _ => ?_) (fun c9 => absurd c9 (by decide +kernel))
    refine lv_aload_n hx hb dX11_raise_16 rfl (lv_at hl 0 rfl) ?_
    refine lv_iload_n hx hb dX11_raise_17 rfl (lv_at hl 1 rfl) ?_
    refine lv_lconst (v := 0) hx hb dX11_raise_18 (by decide +kernel) ?_
    refine lv_lconst (v := 0) hx hb dX11_raise_19 (by decide +kernel) ?_
    have hFc := va_free (wc := [(h0, .inr (8, [v0, v1, .ref p0, .ref p1, v4, .int n])), (p0, .inl (T 1, 676, .inr (.inl f0))), (p1, .inl (T 1, 676, .inr (.inl f1)))]) hD hS hA [0, 1, 2] rfl
    refine va_callv (va_runV (As := [.int x1, .long 0, .long 0]) (rest := []) ⟨hx, hb, hml, hown, hts⟩ (c_X11_assign l D T _ h0 p0 p1 (v0) (v1) (v4) n f0 f1 x1 0 0 (by first | decide | omega)) (cwV 3 hts gX11_raise_X11_assign rfl rfl rfl hv_X11_assign ⟨Nat.le_of_ble_eq_true rfl, Nat.le_of_ble_eq_true rfl⟩) (pW_V (q := (RX11, TX11, 6)) (ci := 8) (q0 := 0) hP hE hD rfl rfl [0, 1, 2] (by decide +kernel) rfl rfl) rfl rfl hl.1 rfl (lv_room (Nat.le_of_ble_eq_true rfl)) dX11_raise_20 ⟨Nat.le_of_ble_eq_true rfl, Nat.le_of_ble_eq_true rfl⟩) hS (fun q _ h => hFc q h) hFc (fun u_4 t H1 locs ht hvm hr_3 hB hz1 hk1 hS => ?_)
    obtain ⟨f_5, f_6⟩ := u_4
    have hrd1 : f_5 = vp_updL f0 (x1.toNatClampNeg) (((0 : Int64), (0 : Int64))).1 := hr_3.1
    have hrd2 : f_6 = vp_updL f1 (x1.toNatClampNeg) (((0 : Int64), (0 : Int64))).2 := hr_3.2
    obtain ⟨hP1, hD1⟩ := hB
    rw [ht] at hP1
    obtain ⟨hP, hD⟩ := va_repl [(h0, .inr (8, [v0, v1, .ref p0, .ref p1, v4, .int n])), (p0, .inl (T 1, 676, .inr (.inl f_5))), (p1, .inl (T 1, 676, .inr (.inl f_6)))] hP hD [0, 1, 2] [0, 1, 2] rfl (by decide +kernel) rfl rfl rfl hk1 hP1
    clear hP1 hD1 hFc
    generalize H1 = H at hP hS ⊢
    refine lv_goto (tgt := 41) hx hb dX11_raise_23 (by decide +kernel) ?_
    exact W.vret hx hb hr (fun t ht hW => ⟨⟨(f_5, f_6), rfl, ⟨hrd1.trans (congrArg (fun q9 : Int64 × Int64 => vp_updL f0 (x1.toNatClampNeg) q9.1) (show ((0 : Int64), (0 : Int64)) = maxW ((f0 (x1.toNatClampNeg)), (f1 (x1.toNatClampNeg))) ((f0 (x2.toNatClampNeg)), (f1 (x2.toNatClampNeg))) from (maxW_much (by first | exact Or.inl (show (f1 (x1.toNatClampNeg)).toInt = 0 from by omega) | exact Or.inr (show (f1 (x2.toNatClampNeg)).toInt = 0 from by omega))).symm)), hrd2.trans (congrArg (fun q9 : Int64 × Int64 => vp_updL f1 (x1.toNatClampNeg) q9.2) (show ((0 : Int64), (0 : Int64)) = maxW ((f0 (x1.toNatClampNeg)), (f1 (x1.toNatClampNeg))) ((f0 (x2.toNatClampNeg)), (f1 (x2.toNatClampNeg))) from (maxW_much (by first | exact Or.inl (show (f1 (x1.toNatClampNeg)).toInt = 0 from by omega) | exact Or.inr (show (f1 (x2.toNatClampNeg)).toInt = 0 from by omega))).symm))⟩, by rw [ht]; exact hP.sub [0, 1, 2] rfl, hD.sub [0, 1, 2] (by decide +kernel) rfl⟩, hS.F ht⟩) hS.2.2 dX11_raise_41
  · refine lv_if_ne (tgt := 16) hx hb dX11_raise_5 (by decide +kernel) (fun c9 => absurd c9 (by decide +kernel)) (fun _ => ?_)
    refine lv_aload_n hx hb dX11_raise_8 rfl (lv_at hl 0 rfl) ?_
    refine lv_iload_n hx hb dX11_raise_9 rfl (lv_at hl 2 rfl) ?_
    refine vp_callSi (W.runV (As := [.int x2]) (rest := []) ⟨hx, hb, hml, hown, hts⟩ (c_X11_isMuch l D T h0 [v0, v1, .ref p0, .ref p1, v4, .int n] p1 f1 x2 rfl (by first | decide | omega)) (cwV 1 hts gX11_raise_X11_isMuch rfl rfl rfl hv_X11_isMuch ⟨Nat.le_of_ble_eq_true rfl, Nat.le_of_ble_eq_true rfl⟩) (pR_V (q := (RX11, TX11, 6)) (ci := 8) (q0 := 0) hP hE rfl rfl [0, 2] rfl) rfl rfl hl.1 rfl (lv_room (Nat.le_of_ble_eq_true rfl)) dX11_raise_10 ⟨Nat.le_of_ble_eq_true rfl, Nat.le_of_ble_eq_true rfl⟩) (fun r_7 hr_7 => ?_)
    rcases bool_post hr_7 with ⟨c_8, rfl⟩ | ⟨c_8, rfl⟩
    · refine lv_if_eq (tgt := 26) hx hb dX11_raise_13 (by decide +kernel) (fun c9 => absurd c9 (by decide +kernel)) (fun _ => ?_)
      refine lv_aload_n hx hb dX11_raise_16 rfl (lv_at hl 0 rfl) ?_
      refine lv_iload_n hx hb dX11_raise_17 rfl (lv_at hl 1 rfl) ?_
      refine lv_lconst (v := 0) hx hb dX11_raise_18 (by decide +kernel) ?_
      refine lv_lconst (v := 0) hx hb dX11_raise_19 (by decide +kernel) ?_
      have hFc := va_free (wc := [(h0, .inr (8, [v0, v1, .ref p0, .ref p1, v4, .int n])), (p0, .inl (T 1, 676, .inr (.inl f0))), (p1, .inl (T 1, 676, .inr (.inl f1)))]) hD hS hA [0, 1, 2] rfl
      refine va_callv (va_runV (As := [.int x1, .long 0, .long 0]) (rest := []) ⟨hx, hb, hml, hown, hts⟩ (c_X11_assign l D T _ h0 p0 p1 (v0) (v1) (v4) n f0 f1 x1 0 0 (by first | decide | omega)) (cwV 3 hts gX11_raise_X11_assign rfl rfl rfl hv_X11_assign ⟨Nat.le_of_ble_eq_true rfl, Nat.le_of_ble_eq_true rfl⟩) (pW_V (q := (RX11, TX11, 6)) (ci := 8) (q0 := 0) hP hE hD rfl rfl [0, 1, 2] (by decide +kernel) rfl rfl) rfl rfl hl.1 rfl (lv_room (Nat.le_of_ble_eq_true rfl)) dX11_raise_20 ⟨Nat.le_of_ble_eq_true rfl, Nat.le_of_ble_eq_true rfl⟩) hS (fun q _ h => hFc q h) hFc (fun u_10 t H1 locs ht hvm hr_9 hB hz1 hk1 hS => ?_)
      obtain ⟨f_11, f_12⟩ := u_10
      have hrd1 : f_11 = vp_updL f0 (x1.toNatClampNeg) (((0 : Int64), (0 : Int64))).1 := hr_9.1
      have hrd2 : f_12 = vp_updL f1 (x1.toNatClampNeg) (((0 : Int64), (0 : Int64))).2 := hr_9.2
      obtain ⟨hP1, hD1⟩ := hB
      rw [ht] at hP1
      obtain ⟨hP, hD⟩ := va_repl [(h0, .inr (8, [v0, v1, .ref p0, .ref p1, v4, .int n])), (p0, .inl (T 1, 676, .inr (.inl f_11))), (p1, .inl (T 1, 676, .inr (.inl f_12)))] hP hD [0, 1, 2] [0, 1, 2] rfl (by decide +kernel) rfl rfl rfl hk1 hP1
      clear hP1 hD1 hFc
      generalize H1 = H at hP hS ⊢
      refine lv_goto (tgt := 41) hx hb dX11_raise_23 (by decide +kernel) ?_
      exact W.vret hx hb hr (fun t ht hW => ⟨⟨(f_11, f_12), rfl, ⟨hrd1.trans (congrArg (fun q9 : Int64 × Int64 => vp_updL f0 (x1.toNatClampNeg) q9.1) (show ((0 : Int64), (0 : Int64)) = maxW ((f0 (x1.toNatClampNeg)), (f1 (x1.toNatClampNeg))) ((f0 (x2.toNatClampNeg)), (f1 (x2.toNatClampNeg))) from (maxW_much (by first | exact Or.inl (show (f1 (x1.toNatClampNeg)).toInt = 0 from by omega) | exact Or.inr (show (f1 (x2.toNatClampNeg)).toInt = 0 from by omega))).symm)), hrd2.trans (congrArg (fun q9 : Int64 × Int64 => vp_updL f1 (x1.toNatClampNeg) q9.2) (show ((0 : Int64), (0 : Int64)) = maxW ((f0 (x1.toNatClampNeg)), (f1 (x1.toNatClampNeg))) ((f0 (x2.toNatClampNeg)), (f1 (x2.toNatClampNeg))) from (maxW_much (by first | exact Or.inl (show (f1 (x1.toNatClampNeg)).toInt = 0 from by omega) | exact Or.inr (show (f1 (x2.toNatClampNeg)).toInt = 0 from by omega))).symm))⟩, by rw [ht]; exact hP.sub [0, 1, 2] rfl, hD.sub [0, 1, 2] (by decide +kernel) rfl⟩, hS.F ht⟩) hS.2.2 dX11_raise_41
    · refine lv_if_eq (tgt := 26) hx hb dX11_raise_13 (by decide +kernel) (fun _ => ?_) (fun c9 => absurd c9 (by decide +kernel))
      refine lv_aload_n hx hb dX11_raise_26 rfl (lv_at hl 0 rfl) ?_
      refine lv_iload_n hx hb dX11_raise_27 rfl (lv_at hl 2 rfl) ?_
      refine lv_iload_n hx hb dX11_raise_28 rfl (lv_at hl 1 rfl) ?_
      refine vp_callSi (W.runV (As := [.int x2, .int x1]) (rest := []) ⟨hx, hb, hml, hown, hts⟩ (c_X11_order l D T h0 [v0, v1, .ref p0, .ref p1, v4, .int n] p1 f1 p0 f0 x2 x1 rfl rfl (by first | decide | omega) (by first | decide | omega) (by first | omega | assumption | decide) (by first | omega | assumption | decide)) (cwV 2 hts gX11_raise_X11_order rfl rfl rfl hv_X11_order ⟨Nat.le_of_ble_eq_true rfl, Nat.le_of_ble_eq_true rfl⟩) (pR_V (q := (RX11, TX11, 6)) (ci := 8) (q0 := 0) hP hE rfl rfl [0, 2, 1] rfl) rfl rfl hl.1 rfl (lv_room (Nat.le_of_ble_eq_true rfl)) dX11_raise_29 ⟨Nat.le_of_ble_eq_true rfl, Nat.le_of_ble_eq_true rfl⟩) (fun r_13 hr_13 => ?_)
      refine lv_if_le (tgt := 41) hx hb dX11_raise_32 (by decide +kernel) (fun c_14 => ?_) (fun c_14 => ?_)
      · rw [fa_le] at c_14
        try rw [ti_0] at c_14
        exact W.vret hx hb hr (fun t ht hW => ⟨⟨(f0, f1), rfl, ⟨((congrArg (fun q9 : Int64 × Int64 => vp_updL f0 (x1.toNatClampNeg) q9.1) (show maxW ((f0 (x1.toNatClampNeg)), (f1 (x1.toNatClampNeg))) ((f0 (x2.toNatClampNeg)), (f1 (x2.toNatClampNeg))) = ((f0 (x1.toNatClampNeg)), (f1 (x1.toNatClampNeg))) from maxW_p (fun h9 => by rcases h9 with h9 | h9 <;> exact absurd h9 (by omega)) (show ¬ 0 < cmpP ((f0 (x2.toNatClampNeg)), (f1 (x2.toNatClampNeg))) ((f0 (x1.toNatClampNeg)), (f1 (x1.toNatClampNeg))) from by unfold cmpP; rw [← hr_13]; omega))).trans updL_self).symm, ((congrArg (fun q9 : Int64 × Int64 => vp_updL f1 (x1.toNatClampNeg) q9.2) (show maxW ((f0 (x1.toNatClampNeg)), (f1 (x1.toNatClampNeg))) ((f0 (x2.toNatClampNeg)), (f1 (x2.toNatClampNeg))) = ((f0 (x1.toNatClampNeg)), (f1 (x1.toNatClampNeg))) from maxW_p (fun h9 => by rcases h9 with h9 | h9 <;> exact absurd h9 (by omega)) (show ¬ 0 < cmpP ((f0 (x2.toNatClampNeg)), (f1 (x2.toNatClampNeg))) ((f0 (x1.toNatClampNeg)), (f1 (x1.toNatClampNeg))) from by unfold cmpP; rw [← hr_13]; omega))).trans updL_self).symm⟩, by rw [ht]; exact hP.sub [0, 1, 2] rfl, hD.sub [0, 1, 2] (by decide +kernel) rfl⟩, hS.F ht⟩) hS.2.2 dX11_raise_41
      · rw [fa_le] at c_14
        try rw [ti_0] at c_14
        refine lv_aload_n hx hb dX11_raise_35 rfl (lv_at hl 0 rfl) ?_
        refine lv_iload_n hx hb dX11_raise_36 rfl (lv_at hl 1 rfl) ?_
        refine lv_iload_n hx hb dX11_raise_37 rfl (lv_at hl 2 rfl) ?_
        have hFc := va_free (wc := [(h0, .inr (8, [v0, v1, .ref p0, .ref p1, v4, .int n])), (p0, .inl (T 1, 676, .inr (.inl f0))), (p1, .inl (T 1, 676, .inr (.inl f1)))]) hD hS hA [0, 1, 2] rfl
        refine va_callv (va_runV (As := [.int x1, .int x2]) (rest := []) ⟨hx, hb, hml, hown, hts⟩ (c_X11_repeat l D T _ h0 p0 p1 (v0) (v1) (v4) n f0 f1 x1 x2 (by first | decide | omega) (by first | decide | omega)) (cwV 2 hts gX11_raise_X11_repeat rfl rfl rfl hv_X11_repeat ⟨Nat.le_of_ble_eq_true rfl, Nat.le_of_ble_eq_true rfl⟩) (pW_V (q := (RX11, TX11, 6)) (ci := 8) (q0 := 0) hP hE hD rfl rfl [0, 1, 2] (by decide +kernel) rfl rfl) rfl rfl hl.1 rfl (lv_room (Nat.le_of_ble_eq_true rfl)) dX11_raise_38 ⟨Nat.le_of_ble_eq_true rfl, Nat.le_of_ble_eq_true rfl⟩) hS (fun q _ h => hFc q h) hFc (fun u_16 t H1 locs ht hvm hr_15 hB hz1 hk1 hS => ?_)
        obtain ⟨f_17, f_18⟩ := u_16
        have hrd1 : f_17 = vp_updL f0 (x1.toNatClampNeg) (((f0 (x2.toNatClampNeg)), (f1 (x2.toNatClampNeg)))).1 := hr_15.1
        have hrd2 : f_18 = vp_updL f1 (x1.toNatClampNeg) (((f0 (x2.toNatClampNeg)), (f1 (x2.toNatClampNeg)))).2 := hr_15.2
        obtain ⟨hP1, hD1⟩ := hB
        rw [ht] at hP1
        obtain ⟨hP, hD⟩ := va_repl [(h0, .inr (8, [v0, v1, .ref p0, .ref p1, v4, .int n])), (p0, .inl (T 1, 676, .inr (.inl f_17))), (p1, .inl (T 1, 676, .inr (.inl f_18)))] hP hD [0, 1, 2] [0, 1, 2] rfl (by decide +kernel) rfl rfl rfl hk1 hP1
        clear hP1 hD1 hFc
        generalize H1 = H at hP hS ⊢
        exact W.vret hx hb hr (fun t ht hW => ⟨⟨(f_17, f_18), rfl, ⟨hrd1.trans (congrArg (fun q9 : Int64 × Int64 => vp_updL f0 (x1.toNatClampNeg) q9.1) (show ((f0 (x2.toNatClampNeg)), (f1 (x2.toNatClampNeg))) = maxW ((f0 (x1.toNatClampNeg)), (f1 (x1.toNatClampNeg))) ((f0 (x2.toNatClampNeg)), (f1 (x2.toNatClampNeg))) from (maxW_q (fun h9 => by rcases h9 with h9 | h9 <;> exact absurd h9 (by omega)) (show 0 < cmpP ((f0 (x2.toNatClampNeg)), (f1 (x2.toNatClampNeg))) ((f0 (x1.toNatClampNeg)), (f1 (x1.toNatClampNeg))) from by unfold cmpP; rw [← hr_13]; omega)).symm)), hrd2.trans (congrArg (fun q9 : Int64 × Int64 => vp_updL f1 (x1.toNatClampNeg) q9.2) (show ((f0 (x2.toNatClampNeg)), (f1 (x2.toNatClampNeg))) = maxW ((f0 (x1.toNatClampNeg)), (f1 (x1.toNatClampNeg))) ((f0 (x2.toNatClampNeg)), (f1 (x2.toNatClampNeg))) from (maxW_q (fun h9 => by rcases h9 with h9 | h9 <;> exact absurd h9 (by omega)) (show 0 < cmpP ((f0 (x2.toNatClampNeg)), (f1 (x2.toNatClampNeg))) ((f0 (x1.toNatClampNeg)), (f1 (x1.toNatClampNeg))) from by unfold cmpP; rw [← hr_13]; omega)).symm))⟩, by rw [ht]; exact hP.sub [0, 1, 2] rfl, hD.sub [0, 1, 2] (by decide +kernel) rfl⟩, hS.F ht⟩) hS.2.2 dX11_raise_41
